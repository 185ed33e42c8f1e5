section
-- ===== PART A: goes FIRST, ahead of the names: the tables' words, and 'selects' of the private methods out of them =====
/-- a private method of a class that the tables say can be made, by its rows of tables_1 -/
def lw_okq (q : MethodName × Nat) : Prop := (q.1.cls ≠ "java/lang/invoke/MethodHandle" ∧ q.1.cls ≠ "java/lang/invoke/VarHandle") ∧ Cond.instantiable q.1.cls q.2 ∈ tables_1 ∧ Cond.privateMethod q.1 ∈ tables_1 ∧ Cond.instanceMethod q.1 ∈ tables_1
theorem lw_p0 : lw_okq (⟨"RollingDigits", "keepState", "()V"⟩, 8) := ⟨⟨by decide +kernel, by decide +kernel⟩, List.mem_of_getElem? (i := 13) (by decide +kernel), List.mem_of_getElem? (i := 237) (by decide +kernel), List.mem_of_getElem? (i := 238) (by decide +kernel)⟩
theorem lw_p1 : lw_okq (⟨"RollingDigits", "findFault", "()I"⟩, 8) := ⟨⟨by decide +kernel, by decide +kernel⟩, List.mem_of_getElem? (i := 13) (by decide +kernel), List.mem_of_getElem? (i := 556) (by decide +kernel), List.mem_of_getElem? (i := 557) (by decide +kernel)⟩
theorem lw_p2 : lw_okq (⟨"RollingDigitsModel", "changes", "()V"⟩, 19) := ⟨⟨by decide +kernel, by decide +kernel⟩, List.mem_of_getElem? (i := 580) (by decide +kernel), List.mem_of_getElem? (i := 655) (by decide +kernel), List.mem_of_getElem? (i := 656) (by decide +kernel)⟩
theorem lw_p3 : lw_okq (⟨"RollingDigitsModel", "puts", "(II)V"⟩, 19) := ⟨⟨by decide +kernel, by decide +kernel⟩, List.mem_of_getElem? (i := 580) (by decide +kernel), List.mem_of_getElem? (i := 659) (by decide +kernel), List.mem_of_getElem? (i := 660) (by decide +kernel)⟩
theorem lw_p4 : lw_okq (⟨"RollingDigitsModel", "passes", "(I)I"⟩, 19) := ⟨⟨by decide +kernel, by decide +kernel⟩, List.mem_of_getElem? (i := 580) (by decide +kernel), List.mem_of_getElem? (i := 667) (by decide +kernel), List.mem_of_getElem? (i := 668) (by decide +kernel)⟩
theorem lw_p5 : lw_okq (⟨"RollingDigitsModel", "phase", "()Z"⟩, 19) := ⟨⟨by decide +kernel, by decide +kernel⟩, List.mem_of_getElem? (i := 580) (by decide +kernel), List.mem_of_getElem? (i := 671) (by decide +kernel), List.mem_of_getElem? (i := 672) (by decide +kernel)⟩
theorem lw_p6 : lw_okq (⟨"RollingDigitsModel", "tick", "()V"⟩, 19) := ⟨⟨by decide +kernel, by decide +kernel⟩, List.mem_of_getElem? (i := 580) (by decide +kernel), List.mem_of_getElem? (i := 675) (by decide +kernel), List.mem_of_getElem? (i := 676) (by decide +kernel)⟩
theorem lw_p7 : lw_okq (⟨"RollingDigitsModel", "steps", "(I)Z"⟩, 19) := ⟨⟨by decide +kernel, by decide +kernel⟩, List.mem_of_getElem? (i := 580) (by decide +kernel), List.mem_of_getElem? (i := 679) (by decide +kernel), List.mem_of_getElem? (i := 680) (by decide +kernel)⟩
theorem lw_p8 : lw_okq (⟨"RollingDigitsModel", "rolls", "(I)Z"⟩, 19) := ⟨⟨by decide +kernel, by decide +kernel⟩, List.mem_of_getElem? (i := 580) (by decide +kernel), List.mem_of_getElem? (i := 683) (by decide +kernel), List.mem_of_getElem? (i := 684) (by decide +kernel)⟩
theorem lw_p9 : lw_okq (⟨"RollingDigitsModel", "wrong", "(I)I"⟩, 19) := ⟨⟨by decide +kernel, by decide +kernel⟩, List.mem_of_getElem? (i := 580) (by decide +kernel), List.mem_of_getElem? (i := 687) (by decide +kernel), List.mem_of_getElem? (i := 688) (by decide +kernel)⟩
theorem lw_p10 : lw_okq (⟨"RollingDigitsModel", "number", "(I)I"⟩, 19) := ⟨⟨by decide +kernel, by decide +kernel⟩, List.mem_of_getElem? (i := 580) (by decide +kernel), List.mem_of_getElem? (i := 691) (by decide +kernel), List.mem_of_getElem? (i := 692) (by decide +kernel)⟩
theorem lw_p11 : lw_okq (⟨"RollingDigitsModel", "last", "(I)I"⟩, 19) := ⟨⟨by decide +kernel, by decide +kernel⟩, List.mem_of_getElem? (i := 580) (by decide +kernel), List.mem_of_getElem? (i := 698) (by decide +kernel), List.mem_of_getElem? (i := 699) (by decide +kernel)⟩
theorem lw_p12 : lw_okq (⟨"RollingDigitsModel", "monthLength", "()I"⟩, 19) := ⟨⟨by decide +kernel, by decide +kernel⟩, List.mem_of_getElem? (i := 580) (by decide +kernel), List.mem_of_getElem? (i := 702) (by decide +kernel), List.mem_of_getElem? (i := 703) (by decide +kernel)⟩
theorem lw_p13 : lw_okq (⟨"RollingDigitsModel", "isWithin", "(III)Z"⟩, 19) := ⟨⟨by decide +kernel, by decide +kernel⟩, List.mem_of_getElem? (i := 580) (by decide +kernel), List.mem_of_getElem? (i := 706) (by decide +kernel), List.mem_of_getElem? (i := 707) (by decide +kernel)⟩
theorem lw_p14 : lw_okq (⟨"RollingDigitsModel", "isLeap", "()Z"⟩, 19) := ⟨⟨by decide +kernel, by decide +kernel⟩, List.mem_of_getElem? (i := 580) (by decide +kernel), List.mem_of_getElem? (i := 710) (by decide +kernel), List.mem_of_getElem? (i := 711) (by decide +kernel)⟩
theorem lw_p15 : lw_okq (⟨"RollingDigitsModel", "stepped", "(I)I"⟩, 19) := ⟨⟨by decide +kernel, by decide +kernel⟩, List.mem_of_getElem? (i := 580) (by decide +kernel), List.mem_of_getElem? (i := 717) (by decide +kernel), List.mem_of_getElem? (i := 718) (by decide +kernel)⟩
def lw_privs_1 : List (MethodName × Nat) := [(⟨"RollingDigits", "keepState", "()V"⟩, 8), (⟨"RollingDigits", "findFault", "()I"⟩, 8), (⟨"RollingDigitsModel", "changes", "()V"⟩, 19), (⟨"RollingDigitsModel", "puts", "(II)V"⟩, 19), (⟨"RollingDigitsModel", "passes", "(I)I"⟩, 19), (⟨"RollingDigitsModel", "phase", "()Z"⟩, 19), (⟨"RollingDigitsModel", "tick", "()V"⟩, 19), (⟨"RollingDigitsModel", "steps", "(I)Z"⟩, 19), (⟨"RollingDigitsModel", "rolls", "(I)Z"⟩, 19), (⟨"RollingDigitsModel", "wrong", "(I)I"⟩, 19), (⟨"RollingDigitsModel", "number", "(I)I"⟩, 19), (⟨"RollingDigitsModel", "last", "(I)I"⟩, 19), (⟨"RollingDigitsModel", "monthLength", "()I"⟩, 19), (⟨"RollingDigitsModel", "isWithin", "(III)Z"⟩, 19), (⟨"RollingDigitsModel", "isLeap", "()Z"⟩, 19), (⟨"RollingDigitsModel", "stepped", "(I)I"⟩, 19)]
theorem lw_r1 : ∀ q ∈ lw_privs_1, lw_okq q := List.forall_mem_cons.mpr ⟨lw_p0, List.forall_mem_cons.mpr ⟨lw_p1, List.forall_mem_cons.mpr ⟨lw_p2, List.forall_mem_cons.mpr ⟨lw_p3, List.forall_mem_cons.mpr ⟨lw_p4, List.forall_mem_cons.mpr ⟨lw_p5, List.forall_mem_cons.mpr ⟨lw_p6, List.forall_mem_cons.mpr ⟨lw_p7, List.forall_mem_cons.mpr ⟨lw_p8, List.forall_mem_cons.mpr ⟨lw_p9, List.forall_mem_cons.mpr ⟨lw_p10, List.forall_mem_cons.mpr ⟨lw_p11, List.forall_mem_cons.mpr ⟨lw_p12, List.forall_mem_cons.mpr ⟨lw_p13, List.forall_mem_cons.mpr ⟨lw_p14, List.forall_mem_cons.mpr ⟨lw_p15, fun _ h => absurd h List.not_mem_nil⟩⟩⟩⟩⟩⟩⟩⟩⟩⟩⟩⟩⟩⟩⟩⟩
theorem lw_p16 : lw_okq (⟨"RollingDigitsModel", "matches", "(I)Z"⟩, 19) := ⟨⟨by decide +kernel, by decide +kernel⟩, List.mem_of_getElem? (i := 580) (by decide +kernel), List.mem_of_getElem? (i := 724) (by decide +kernel), List.mem_of_getElem? (i := 725) (by decide +kernel)⟩
theorem lw_p17 : lw_okq (⟨"RollingDigitsModel", "bursts", "(I)I"⟩, 19) := ⟨⟨by decide +kernel, by decide +kernel⟩, List.mem_of_getElem? (i := 580) (by decide +kernel), List.mem_of_getElem? (i := 733) (by decide +kernel), List.mem_of_getElem? (i := 734) (by decide +kernel)⟩
theorem lw_p18 : lw_okq (⟨"RollingDigitsModel", "readsAll", "()V"⟩, 19) := ⟨⟨by decide +kernel, by decide +kernel⟩, List.mem_of_getElem? (i := 580) (by decide +kernel), List.mem_of_getElem? (i := 737) (by decide +kernel), List.mem_of_getElem? (i := 738) (by decide +kernel)⟩
theorem lw_p19 : lw_okq (⟨"RollingDigitsModel", "shows", "()V"⟩, 19) := ⟨⟨by decide +kernel, by decide +kernel⟩, List.mem_of_getElem? (i := 580) (by decide +kernel), List.mem_of_getElem? (i := 741) (by decide +kernel), List.mem_of_getElem? (i := 742) (by decide +kernel)⟩
theorem lw_p20 : lw_okq (⟨"RollingDigitsModel", "readsAtOnce", "()V"⟩, 19) := ⟨⟨by decide +kernel, by decide +kernel⟩, List.mem_of_getElem? (i := 580) (by decide +kernel), List.mem_of_getElem? (i := 745) (by decide +kernel), List.mem_of_getElem? (i := 746) (by decide +kernel)⟩
theorem lw_p21 : lw_okq (⟨"RollingDigitsModel", "readsAgain", "()I"⟩, 19) := ⟨⟨by decide +kernel, by decide +kernel⟩, List.mem_of_getElem? (i := 580) (by decide +kernel), List.mem_of_getElem? (i := 749) (by decide +kernel), List.mem_of_getElem? (i := 750) (by decide +kernel)⟩
theorem lw_p22 : lw_okq (⟨"RollingDigitsModel", "isAsAhead", "()Z"⟩, 19) := ⟨⟨by decide +kernel, by decide +kernel⟩, List.mem_of_getElem? (i := 580) (by decide +kernel), List.mem_of_getElem? (i := 753) (by decide +kernel), List.mem_of_getElem? (i := 754) (by decide +kernel)⟩
theorem lw_p23 : lw_okq (⟨"RollingDigitsModel", "wasShown", "()Z"⟩, 19) := ⟨⟨by decide +kernel, by decide +kernel⟩, List.mem_of_getElem? (i := 580) (by decide +kernel), List.mem_of_getElem? (i := 757) (by decide +kernel), List.mem_of_getElem? (i := 758) (by decide +kernel)⟩
theorem lw_p24 : lw_okq (⟨"RollingDigitsModel", "flags", "()I"⟩, 19) := ⟨⟨by decide +kernel, by decide +kernel⟩, List.mem_of_getElem? (i := 580) (by decide +kernel), List.mem_of_getElem? (i := 780) (by decide +kernel), List.mem_of_getElem? (i := 781) (by decide +kernel)⟩
theorem lw_p25 : lw_okq (⟨"RollingDigitsModel", "failed", "()I"⟩, 19) := ⟨⟨by decide +kernel, by decide +kernel⟩, List.mem_of_getElem? (i := 580) (by decide +kernel), List.mem_of_getElem? (i := 793) (by decide +kernel), List.mem_of_getElem? (i := 794) (by decide +kernel)⟩
theorem lw_p26 : lw_okq (⟨"RollingDigitsModel", "wouldStep", "(I)I"⟩, 19) := ⟨⟨by decide +kernel, by decide +kernel⟩, List.mem_of_getElem? (i := 580) (by decide +kernel), List.mem_of_getElem? (i := 808) (by decide +kernel), List.mem_of_getElem? (i := 809) (by decide +kernel)⟩
theorem lw_p27 : lw_okq (⟨"RollingDigitsModel", "daysBehind", "()I"⟩, 19) := ⟨⟨by decide +kernel, by decide +kernel⟩, List.mem_of_getElem? (i := 580) (by decide +kernel), List.mem_of_getElem? (i := 820) (by decide +kernel), List.mem_of_getElem? (i := 821) (by decide +kernel)⟩
theorem lw_p28 : lw_okq (⟨"RollingDigitsModel", "daysAhead", "(Z)I"⟩, 19) := ⟨⟨by decide +kernel, by decide +kernel⟩, List.mem_of_getElem? (i := 580) (by decide +kernel), List.mem_of_getElem? (i := 824) (by decide +kernel), List.mem_of_getElem? (i := 825) (by decide +kernel)⟩
theorem lw_p29 : lw_okq (⟨"RollingDigitsModel", "wrongOnes", "()I"⟩, 19) := ⟨⟨by decide +kernel, by decide +kernel⟩, List.mem_of_getElem? (i := 580) (by decide +kernel), List.mem_of_getElem? (i := 869) (by decide +kernel), List.mem_of_getElem? (i := 870) (by decide +kernel)⟩
theorem lw_p30 : lw_okq (⟨"RollingDigitsModel", "plays", "()Z"⟩, 19) := ⟨⟨by decide +kernel, by decide +kernel⟩, List.mem_of_getElem? (i := 580) (by decide +kernel), List.mem_of_getElem? (i := 890) (by decide +kernel), List.mem_of_getElem? (i := 891) (by decide +kernel)⟩
theorem lw_p31 : lw_okq (⟨"RollingDigitsModel", "reads", "()Z"⟩, 19) := ⟨⟨by decide +kernel, by decide +kernel⟩, List.mem_of_getElem? (i := 580) (by decide +kernel), List.mem_of_getElem? (i := 894) (by decide +kernel), List.mem_of_getElem? (i := 895) (by decide +kernel)⟩
def lw_privs_2 : List (MethodName × Nat) := [(⟨"RollingDigitsModel", "matches", "(I)Z"⟩, 19), (⟨"RollingDigitsModel", "bursts", "(I)I"⟩, 19), (⟨"RollingDigitsModel", "readsAll", "()V"⟩, 19), (⟨"RollingDigitsModel", "shows", "()V"⟩, 19), (⟨"RollingDigitsModel", "readsAtOnce", "()V"⟩, 19), (⟨"RollingDigitsModel", "readsAgain", "()I"⟩, 19), (⟨"RollingDigitsModel", "isAsAhead", "()Z"⟩, 19), (⟨"RollingDigitsModel", "wasShown", "()Z"⟩, 19), (⟨"RollingDigitsModel", "flags", "()I"⟩, 19), (⟨"RollingDigitsModel", "failed", "()I"⟩, 19), (⟨"RollingDigitsModel", "wouldStep", "(I)I"⟩, 19), (⟨"RollingDigitsModel", "daysBehind", "()I"⟩, 19), (⟨"RollingDigitsModel", "daysAhead", "(Z)I"⟩, 19), (⟨"RollingDigitsModel", "wrongOnes", "()I"⟩, 19), (⟨"RollingDigitsModel", "plays", "()Z"⟩, 19), (⟨"RollingDigitsModel", "reads", "()Z"⟩, 19)]
theorem lw_r2 : ∀ q ∈ lw_privs_2, lw_okq q := List.forall_mem_cons.mpr ⟨lw_p16, List.forall_mem_cons.mpr ⟨lw_p17, List.forall_mem_cons.mpr ⟨lw_p18, List.forall_mem_cons.mpr ⟨lw_p19, List.forall_mem_cons.mpr ⟨lw_p20, List.forall_mem_cons.mpr ⟨lw_p21, List.forall_mem_cons.mpr ⟨lw_p22, List.forall_mem_cons.mpr ⟨lw_p23, List.forall_mem_cons.mpr ⟨lw_p24, List.forall_mem_cons.mpr ⟨lw_p25, List.forall_mem_cons.mpr ⟨lw_p26, List.forall_mem_cons.mpr ⟨lw_p27, List.forall_mem_cons.mpr ⟨lw_p28, List.forall_mem_cons.mpr ⟨lw_p29, List.forall_mem_cons.mpr ⟨lw_p30, List.forall_mem_cons.mpr ⟨lw_p31, fun _ h => absurd h List.not_mem_nil⟩⟩⟩⟩⟩⟩⟩⟩⟩⟩⟩⟩⟩⟩⟩⟩
theorem lw_p32 : lw_okq (⟨"RollingDigitsModel", "isAt", "(II)Z"⟩, 19) := ⟨⟨by decide +kernel, by decide +kernel⟩, List.mem_of_getElem? (i := 580) (by decide +kernel), List.mem_of_getElem? (i := 898) (by decide +kernel), List.mem_of_getElem? (i := 899) (by decide +kernel)⟩
theorem lw_p33 : lw_okq (⟨"RollingDigitsModel", "numbered", "(I)Z"⟩, 19) := ⟨⟨by decide +kernel, by decide +kernel⟩, List.mem_of_getElem? (i := 580) (by decide +kernel), List.mem_of_getElem? (i := 905) (by decide +kernel), List.mem_of_getElem? (i := 906) (by decide +kernel)⟩
theorem lw_p34 : lw_okq (⟨"RollingDigitsModel", "sign", "(I)Z"⟩, 19) := ⟨⟨by decide +kernel, by decide +kernel⟩, List.mem_of_getElem? (i := 580) (by decide +kernel), List.mem_of_getElem? (i := 909) (by decide +kernel), List.mem_of_getElem? (i := 910) (by decide +kernel)⟩
theorem lw_p35 : lw_okq (⟨"RollingDigitsModel", "does", "()I"⟩, 19) := ⟨⟨by decide +kernel, by decide +kernel⟩, List.mem_of_getElem? (i := 580) (by decide +kernel), List.mem_of_getElem? (i := 913) (by decide +kernel), List.mem_of_getElem? (i := 914) (by decide +kernel)⟩
def lw_privs_3 : List (MethodName × Nat) := [(⟨"RollingDigitsModel", "isAt", "(II)Z"⟩, 19), (⟨"RollingDigitsModel", "numbered", "(I)Z"⟩, 19), (⟨"RollingDigitsModel", "sign", "(I)Z"⟩, 19), (⟨"RollingDigitsModel", "does", "()I"⟩, 19)]
theorem lw_r3 : ∀ q ∈ lw_privs_3, lw_okq q := List.forall_mem_cons.mpr ⟨lw_p32, List.forall_mem_cons.mpr ⟨lw_p33, List.forall_mem_cons.mpr ⟨lw_p34, List.forall_mem_cons.mpr ⟨lw_p35, fun _ h => absurd h List.not_mem_nil⟩⟩⟩⟩
def lw_privs : List (MethodName × Nat) := lw_privs_1 ++ (lw_privs_2 ++ (lw_privs_3))
def lw_tbl : List Cond := k2_sels lw_privs ++ tables_1
theorem lw_privs_ok : ∀ q ∈ lw_privs, lw_okq q := by
  show ∀ q ∈ lw_privs_1 ++ (lw_privs_2 ++ (lw_privs_3)), lw_okq q
  exact List.forall_mem_append.mpr ⟨lw_r1, List.forall_mem_append.mpr ⟨lw_r2, lw_r3⟩⟩
/-- the streams that the claim lets the run draw from -/
abbrev lw_cs : List Choice := [Jvm.Choice.named "NaN.bits"]
theorem lw_bits : nanBits ∈ lw_cs := by first | decide | exact List.mem_cons_self | simp [lw_cs, nanBits]
/-! ===== BEGIN words of one list among another's, by their places ===== -/
theorem goodIn_r {big : List Cond} (ws : List Cond) (ps : List Nat) (hp : ws = ps.filterMap (fun i => big[i]?)) (h : ws.all goodWord = true) : GoodIn big ws := by
  intro w hw
  have h1 := List.all_eq_true.mp h w hw
  rw [hp] at hw
  obtain ⟨i, -, hi⟩ := List.mem_filterMap.mp hw
  have hm : w ∈ big := by first | exact List.mem_of_getElem? hi | exact List.getElem?_mem hi
  exact ⟨hm, good_of_word h1⟩
theorem goodIn_app {big a b : List Cond} (ha : GoodIn big a) (hb : GoodIn big b) : GoodIn big (a ++ b) := fun w h => (List.mem_append.mp h).elim (ha w) (hb w)
theorem goodIn_ca {big a b : List Cond} {c : Cond} (ha : GoodIn big (c :: a)) (hb : GoodIn big b) : GoodIn big (c :: (a ++ b)) := fun w h => (List.mem_cons.mp h).elim (fun e => ha w (List.mem_cons.mpr (Or.inl e))) (fun h => (List.mem_append.mp h).elim (fun h => ha w (List.mem_cons.mpr (Or.inr h))) (hb w))
theorem goodIn_sub {big ws : List Cond} (hm : ∀ w ∈ ws, w ∈ big) (h : ws.all goodWord = true) : GoodIn big ws := fun w hw => ⟨hm w hw, good_of_word (List.all_eq_true.mp h w hw)⟩
/-! ===== END ===== -/

def RX0 : String := "RollingDigits$Alarms"
def TX0 : u_T := fun k => match k with
  | 0 => ("RollingDigits$Alarms", "values", "[[I", true)
  | 1 => ("RollingDigits$Alarms", "masks", "[I", true)
  | 2 => ("RollingDigits$Alarms", "came", "[I", true)
  | 3 => ("RollingDigits$Alarms", "armed", "I", false)
  | _ => ("RollingDigits$Alarms", "flags", "I", false)
def tyX0 : Nat → FieldType := fun k => match k with
  | 0 => .array (.array .int)
  | 1 => .array .int
  | 2 => .array .int
  | 3 => .int
  | _ => .int
abbrev wsX00 : List Cond := u_ws RX0 TX0 5
theorem nmX0 : ∀ a, a < 5 → ∀ b, b < 5 → a ≠ b → (TX0 a).2.1 ≠ (TX0 b).2.1 := by decide +kernel
theorem tyX0_ok : ∀ k, k < 5 → parseFieldDescriptor (TX0 k).2.2.1 = some (tyX0 k) := by decide +kernel
abbrev cX0_init : ByteArray := prog_2_method_1_code
def yX0_init : MethodName := ⟨RX0, "<init>", "()V"⟩
abbrev cX0_copyFrom : ByteArray := prog_2_method_2_code
def yX0_copyFrom : MethodName := ⟨RX0, "copyFrom", "(LRollingDigits$Alarms;)V"⟩
abbrev cX0_changeValue : ByteArray := prog_2_method_3_code
def yX0_changeValue : MethodName := ⟨RX0, "changeValue", "(III)I"⟩
abbrev cX0_changeMask : ByteArray := prog_2_method_4_code
def yX0_changeMask : MethodName := ⟨RX0, "changeMask", "(II)I"⟩
abbrev cX0_matches : ByteArray := prog_2_method_5_code
def yX0_matches : MethodName := ⟨RX0, "matches", "(ILRollingDigits$Registers;)Z"⟩
abbrev cX0_comeIfDue : ByteArray := prog_2_method_6_code
def yX0_comeIfDue : MethodName := ⟨RX0, "comeIfDue", "(LRollingDigits$Registers;)V"⟩
abbrev cX0_cameInAll : ByteArray := prog_2_method_7_code
def yX0_cameInAll : MethodName := ⟨RX0, "cameInAll", "()I"⟩
def RX1 : String := "RollingDigits$Burst"
def TX1 : u_T := fun k => match k with
  | 0 => ("RollingDigits$Burst", "entry", "[I", true)
  | 1 => ("RollingDigits$Burst", "toldBefore", "[I", true)
  | 2 => ("RollingDigits$Burst", "shown", "[[I", true)
  | _ => ("RollingDigits$Burst", "shownCount", "I", false)
def tyX1 : Nat → FieldType := fun k => match k with
  | 0 => .array .int
  | 1 => .array .int
  | 2 => .array (.array .int)
  | _ => .int
abbrev wsX10 : List Cond := u_ws RX1 TX1 4
theorem nmX1 : ∀ a, a < 4 → ∀ b, b < 4 → a ≠ b → (TX1 a).2.1 ≠ (TX1 b).2.1 := by decide +kernel
theorem tyX1_ok : ∀ k, k < 4 → parseFieldDescriptor (TX1 k).2.2.1 = some (tyX1 k) := by decide +kernel
abbrev cX1_init : ByteArray := prog_3_method_1_code
def yX1_init : MethodName := ⟨RX1, "<init>", "()V"⟩
abbrev cX1_make : ByteArray := prog_3_method_2_code
def yX1_make : MethodName := ⟨RX1, "make", "(LRollingDigits$Chip;I)V"⟩
abbrev cX1_seeAtOnce : ByteArray := prog_3_method_3_code
def yX1_seeAtOnce : MethodName := ⟨RX1, "seeAtOnce", "(LRollingDigits$Registers;)V"⟩
abbrev cX1_readInTurn : ByteArray := prog_3_method_4_code
def yX1_readInTurn : MethodName := ⟨RX1, "readInTurn", "(LRollingDigits$Chip;)V"⟩
abbrev cX1_keepShown : ByteArray := prog_3_method_5_code
def yX1_keepShown : MethodName := ⟨RX1, "keepShown", "(LRollingDigits$Registers;)V"⟩
abbrev cX1_isTorn : ByteArray := prog_3_method_6_code
def yX1_isTorn : MethodName := ⟨RX1, "isTorn", "()Z"⟩
abbrev cX1_isTold : ByteArray := prog_3_method_7_code
def yX1_isTold : MethodName := ⟨RX1, "isTold", "([I)Z"⟩
def RX2 : String := "RollingDigits$BurstLog"
def TX2 : u_T := fun k => match k with
  | 0 => ("RollingDigits$BurstLog", "entries", "[[I", true)
  | 1 => ("RollingDigits$BurstLog", "latest", "I", false)
  | _ => ("RollingDigits$BurstLog", "size", "I", false)
def tyX2 : Nat → FieldType := fun k => match k with
  | 0 => .array (.array .int)
  | 1 => .int
  | _ => .int
abbrev wsX20 : List Cond := u_ws RX2 TX2 3
theorem nmX2 : ∀ a, a < 3 → ∀ b, b < 3 → a ≠ b → (TX2 a).2.1 ≠ (TX2 b).2.1 := by decide +kernel
theorem tyX2_ok : ∀ k, k < 3 → parseFieldDescriptor (TX2 k).2.2.1 = some (tyX2 k) := by decide +kernel
abbrev cX2_init : ByteArray := prog_4_method_1_code
def yX2_init : MethodName := ⟨RX2, "<init>", "()V"⟩
abbrev cX2_copyFrom : ByteArray := prog_4_method_2_code
def yX2_copyFrom : MethodName := ⟨RX2, "copyFrom", "(LRollingDigits$BurstLog;)V"⟩
abbrev cX2_add : ByteArray := prog_4_method_3_code
def yX2_add : MethodName := ⟨RX2, "add", "([I)V"⟩
abbrev cX2_told : ByteArray := prog_4_method_4_code
def yX2_told : MethodName := ⟨RX2, "told", "(II)I"⟩
def RX3 : String := "RollingDigits$Chip"
def TX3 : u_T := fun k => match k with
  | 0 => ("RollingDigits$Chip", "registers", "LRollingDigits$Registers;", true)
  | 1 => ("RollingDigits$Chip", "alarms", "LRollingDigits$Alarms;", true)
  | 2 => ("RollingDigits$Chip", "bursts", "LRollingDigits$BurstLog;", true)
  | 3 => ("RollingDigits$Chip", "settings", "[I", true)
  | 4 => ("RollingDigits$Chip", "phase", "I", false)
  | 5 => ("RollingDigits$Chip", "tickCount", "I", false)
  | 6 => ("RollingDigits$Chip", "phaseCount", "I", false)
  | 7 => ("RollingDigits$Chip", "readCount", "I", false)
  | 8 => ("RollingDigits$Chip", "writingCount", "I", false)
  | 9 => ("RollingDigits$Chip", "burstCount", "I", false)
  | _ => ("RollingDigits$Chip", "tornCount", "I", false)
def tyX3 : Nat → FieldType := fun k => match k with
  | 0 => .object "RollingDigits$Registers"
  | 1 => .object "RollingDigits$Alarms"
  | 2 => .object "RollingDigits$BurstLog"
  | 3 => .array .int
  | 4 => .int
  | 5 => .int
  | 6 => .int
  | 7 => .int
  | 8 => .int
  | 9 => .int
  | _ => .int
abbrev wsX30 : List Cond := u_ws RX3 TX3 11
theorem nmX3 : ∀ a, a < 11 → ∀ b, b < 11 → a ≠ b → (TX3 a).2.1 ≠ (TX3 b).2.1 := by decide +kernel
theorem tyX3_ok : ∀ k, k < 11 → parseFieldDescriptor (TX3 k).2.2.1 = some (tyX3 k) := by decide +kernel
abbrev cX3_init : ByteArray := prog_5_method_1_code
def yX3_init : MethodName := ⟨RX3, "<init>", "()V"⟩
abbrev cX3_copyFrom : ByteArray := prog_5_method_2_code
def yX3_copyFrom : MethodName := ⟨RX3, "copyFrom", "(LRollingDigits$Chip;)V"⟩
abbrev cX3_passPhase : ByteArray := prog_5_method_3_code
def yX3_passPhase : MethodName := ⟨RX3, "passPhase", "()Z"⟩
abbrev cX3_passPhases : ByteArray := prog_5_method_4_code
def yX3_passPhases : MethodName := ⟨RX3, "passPhases", "(I)I"⟩
abbrev cX3_writeRegister : ByteArray := prog_5_method_5_code
def yX3_writeRegister : MethodName := ⟨RX3, "writeRegister", "(II)I"⟩
abbrev cX3_readRegister : ByteArray := prog_5_method_6_code
def yX3_readRegister : MethodName := ⟨RX3, "readRegister", "(I)I"⟩
abbrev cX3_changeSetting : ByteArray := prog_5_method_7_code
def yX3_changeSetting : MethodName := ⟨RX3, "changeSetting", "(II)I"⟩
abbrev cX3_logBurst : ByteArray := prog_5_method_8_code
def yX3_logBurst : MethodName := ⟨RX3, "logBurst", "([I)V"⟩
def RX4 : String := "RollingDigits$Order"
def TX4 : u_T := fun k => match k with
  | 0 => ("RollingDigits$Order", "numbers", "[I", true)
  | 1 => ("RollingDigits$Order", "letter", "C", false)
  | 2 => ("RollingDigits$Order", "isBroken", "Z", false)
  | _ => ("RollingDigits$Order", "length", "I", false)
def tyX4 : Nat → FieldType := fun k => match k with
  | 0 => .array .int
  | 1 => .char
  | 2 => .boolean
  | _ => .int
abbrev wsX40 : List Cond := u_ws RX4 TX4 4
theorem nmX4 : ∀ a, a < 4 → ∀ b, b < 4 → a ≠ b → (TX4 a).2.1 ≠ (TX4 b).2.1 := by decide +kernel
theorem tyX4_ok : ∀ k, k < 4 → parseFieldDescriptor (TX4 k).2.2.1 = some (tyX4 k) := by decide +kernel
abbrev cX4_init : ByteArray := prog_6_method_1_code
def yX4_init : MethodName := ⟨RX4, "<init>", "()V"⟩
abbrev cX4_numbersBehind : ByteArray := prog_6_method_2_code
def yX4_numbersBehind : MethodName := ⟨RX4, "numbersBehind", "(C)I"⟩
abbrev cX4_parse : ByteArray := prog_6_method_3_code
def yX4_parse : MethodName := ⟨RX4, "parse", "([CII)V"⟩
abbrev cX4_endOfDigits : ByteArray := prog_6_method_4_code
def yX4_endOfDigits : MethodName := ⟨RX4, "endOfDigits", "([CII)I"⟩
abbrev cX4_numberIn : ByteArray := prog_6_method_5_code
def yX4_numberIn : MethodName := ⟨RX4, "numberIn", "([CII)I"⟩
def RX5 : String := "RollingDigits$Registers"
def TX5 : u_T := fun k => match k with
  | 0 => ("RollingDigits$Registers", "values", "[I", true)
  | 1 => ("RollingDigits$Registers", "failed", "[I", true)
  | 2 => ("RollingDigits$Registers", "failedAsOne", "[I", true)
  | _ => ("RollingDigits$Registers", "rolls", "[I", true)
def tyX5 : Nat → FieldType := fun k => match k with
  | 0 => .array .int
  | 1 => .array .int
  | 2 => .array .int
  | _ => .array .int
abbrev wsX50 : List Cond := u_ws RX5 TX5 4
theorem nmX5 : ∀ a, a < 4 → ∀ b, b < 4 → a ≠ b → (TX5 a).2.1 ≠ (TX5 b).2.1 := by decide +kernel
theorem tyX5_ok : ∀ k, k < 4 → parseFieldDescriptor (TX5 k).2.2.1 = some (tyX5 k) := by decide +kernel
abbrev cX5_init : ByteArray := prog_7_method_1_code
def yX5_init : MethodName := ⟨RX5, "<init>", "()V"⟩
abbrev cX5_copyFrom : ByteArray := prog_7_method_2_code
def yX5_copyFrom : MethodName := ⟨RX5, "copyFrom", "(LRollingDigits$Registers;)V"⟩
abbrev cX5_lastValue : ByteArray := prog_7_method_3_code
def yX5_lastValue : MethodName := ⟨RX5, "lastValue", "(I)I"⟩
abbrev cX5_isLeapYear : ByteArray := prog_7_method_4_code
def yX5_isLeapYear : MethodName := ⟨RX5, "isLeapYear", "()Z"⟩
abbrev cX5_whyWrong : ByteArray := prog_7_method_5_code
def yX5_whyWrong : MethodName := ⟨RX5, "whyWrong", "(I)I"⟩
abbrev cX5_wrongOnes : ByteArray := prog_7_method_6_code
def yX5_wrongOnes : MethodName := ⟨RX5, "wrongOnes", "()I"⟩
abbrev cX5_withCells : ByteArray := prog_7_method_7_code
def yX5_withCells : MethodName := ⟨RX5, "withCells", "(II)I"⟩
abbrev cX5_hasFailed : ByteArray := prog_7_method_8_code
def yX5_hasFailed : MethodName := ⟨RX5, "hasFailed", "(II)Z"⟩
abbrev cX5_failCell : ByteArray := prog_7_method_9_code
def yX5_failCell : MethodName := ⟨RX5, "failCell", "(III)I"⟩
abbrev cX5_healCell : ByteArray := prog_7_method_10_code
def yX5_healCell : MethodName := ⟨RX5, "healCell", "(II)V"⟩
abbrev cX5_failedCells : ByteArray := prog_7_method_11_code
def yX5_failedCells : MethodName := ⟨RX5, "failedCells", "()I"⟩
abbrev cX5_nextValue : ByteArray := prog_7_method_12_code
def yX5_nextValue : MethodName := ⟨RX5, "nextValue", "(II)I"⟩
abbrev cX5_stepOn : ByteArray := prog_7_method_13_code
def yX5_stepOn : MethodName := ⟨RX5, "stepOn", "(II)Z"⟩
abbrev cX5_tick : ByteArray := prog_7_method_14_code
def yX5_tick : MethodName := ⟨RX5, "tick", "()V"⟩
abbrev cX5_isDateRight : ByteArray := prog_7_method_15_code
def yX5_isDateRight : MethodName := ⟨RX5, "isDateRight", "()Z"⟩
abbrev cX5_daysOfYear : ByteArray := prog_7_method_16_code
def yX5_daysOfYear : MethodName := ⟨RX5, "daysOfYear", "()I"⟩
abbrev cX5_dayOfYear : ByteArray := prog_7_method_17_code
def yX5_dayOfYear : MethodName := ⟨RX5, "dayOfYear", "()I"⟩
abbrev cX5_daysFromStart : ByteArray := prog_7_method_18_code
def yX5_daysFromStart : MethodName := ⟨RX5, "daysFromStart", "()I"⟩
abbrev cX5_weekdayByDate : ByteArray := prog_7_method_19_code
def yX5_weekdayByDate : MethodName := ⟨RX5, "weekdayByDate", "()I"⟩
def RX6 : String := "RollingDigits"
def TX6 : u_T := fun k => match k with
  | 0 => ("RollingDigits", "now", "LRollingDigits$Chip;", true)
  | 1 => ("RollingDigits", "trial", "LRollingDigits$Chip;", true)
  | 2 => ("RollingDigits", "maker", "LRollingDigits$Burst;", true)
  | 3 => ("RollingDigits", "order", "LRollingDigits$Order;", true)
  | 4 => ("RollingDigits", "history", "[LRollingDigits$Chip;", true)
  | 5 => ("RollingDigits", "historySize", "I", false)
  | 6 => ("RollingDigits", "text", "[C", true)
  | _ => ("RollingDigits", "textLength", "I", false)
def tyX6 : Nat → FieldType := fun k => match k with
  | 0 => .object "RollingDigits$Chip"
  | 1 => .object "RollingDigits$Chip"
  | 2 => .object "RollingDigits$Burst"
  | 3 => .object "RollingDigits$Order"
  | 4 => .array (.object "RollingDigits$Chip")
  | 5 => .int
  | 6 => .array .char
  | _ => .int
abbrev wsX60 : List Cond := u_ws RX6 TX6 8
theorem nmX6 : ∀ a, a < 8 → ∀ b, b < 8 → a ≠ b → (TX6 a).2.1 ≠ (TX6 b).2.1 := by decide +kernel
theorem tyX6_ok : ∀ k, k < 8 → parseFieldDescriptor (TX6 k).2.2.1 = some (tyX6 k) := by decide +kernel
abbrev cX6_init : ByteArray := prog_1_method_1_code
def yX6_init : MethodName := ⟨RX6, "<init>", "()V"⟩
abbrev cX6_write : ByteArray := prog_1_method_2_code
def yX6_write : MethodName := ⟨RX6, "write", "(II)I"⟩
abbrev cX6_read : ByteArray := prog_1_method_3_code
def yX6_read : MethodName := ⟨RX6, "read", "(I)I"⟩
abbrev cX6_burst : ByteArray := prog_1_method_4_code
def yX6_burst : MethodName := ⟨RX6, "burst", "(I)I"⟩
abbrev cX6_pass : ByteArray := prog_1_method_5_code
def yX6_pass : MethodName := ⟨RX6, "pass", "(I)I"⟩
abbrev cX6_alarm : ByteArray := prog_1_method_6_code
def yX6_alarm : MethodName := ⟨RX6, "alarm", "(III)I"⟩
abbrev cX6_arm : ByteArray := prog_1_method_7_code
def yX6_arm : MethodName := ⟨RX6, "arm", "(II)I"⟩
abbrev cX6_clear : ByteArray := prog_1_method_8_code
def yX6_clear : MethodName := ⟨RX6, "clear", "()I"⟩
abbrev cX6_fail : ByteArray := prog_1_method_9_code
def yX6_fail : MethodName := ⟨RX6, "fail", "(III)I"⟩
abbrev cX6_heal : ByteArray := prog_1_method_10_code
def yX6_heal : MethodName := ⟨RX6, "heal", "(II)I"⟩
abbrev cX6_set : ByteArray := prog_1_method_11_code
def yX6_set : MethodName := ⟨RX6, "set", "(II)I"⟩
abbrev cX6_registerOf : ByteArray := prog_1_method_12_code
def yX6_registerOf : MethodName := ⟨RX6, "registerOf", "(II)I"⟩
abbrev cX6_alarmOf : ByteArray := prog_1_method_13_code
def yX6_alarmOf : MethodName := ⟨RX6, "alarmOf", "(II)I"⟩
abbrev cX6_date : ByteArray := prog_1_method_14_code
def yX6_date : MethodName := ⟨RX6, "date", "(I)I"⟩
abbrev cX6_log : ByteArray := prog_1_method_15_code
def yX6_log : MethodName := ⟨RX6, "log", "(II)I"⟩
abbrev cX6_readable : ByteArray := prog_1_method_16_code
def yX6_readable : MethodName := ⟨RX6, "readable", "()I"⟩
abbrev cX6_safeIn : ByteArray := prog_1_method_17_code
def yX6_safeIn : MethodName := ⟨RX6, "safeIn", "()I"⟩
abbrev cX6_ifBurst : ByteArray := prog_1_method_18_code
def yX6_ifBurst : MethodName := ⟨RX6, "ifBurst", "(II)I"⟩
abbrev cX6_comesIn : ByteArray := prog_1_method_19_code
def yX6_comesIn : MethodName := ⟨RX6, "comesIn", "(I)I"⟩
abbrev cX6_share : ByteArray := prog_1_method_20_code
def yX6_share : MethodName := ⟨RX6, "share", "()I"⟩
abbrev cX6_count : ByteArray := prog_1_method_21_code
def yX6_count : MethodName := ⟨RX6, "count", "(I)I"⟩
abbrev cX6_undo : ByteArray := prog_1_method_22_code
def yX6_undo : MethodName := ⟨RX6, "undo", "()I"⟩
abbrev cX6_type : ByteArray := prog_1_method_23_code
def yX6_type : MethodName := ⟨RX6, "type", "(I)I"⟩
abbrev cX6_clearText : ByteArray := prog_1_method_24_code
def yX6_clearText : MethodName := ⟨RX6, "clearText", "()I"⟩
abbrev cX6_fault : ByteArray := prog_1_method_25_code
def yX6_fault : MethodName := ⟨RX6, "fault", "(I)I"⟩
abbrev cX6_play : ByteArray := prog_1_method_26_code
def yX6_play : MethodName := ⟨RX6, "play", "()I"⟩
abbrev cX6_keepState : ByteArray := prog_1_method_27_code
def yX6_keepState : MethodName := ⟨RX6, "keepState", "()V"⟩
abbrev cX6_findFault : ByteArray := prog_1_method_28_code
def yX6_findFault : MethodName := ⟨RX6, "findFault", "()I"⟩
abbrev cX6_mayDo : ByteArray := prog_1_method_29_code
def yX6_mayDo : MethodName := ⟨RX6, "mayDo", "(LRollingDigits$Order;)Z"⟩
abbrev cX6_mayWrite : ByteArray := prog_1_method_30_code
def yX6_mayWrite : MethodName := ⟨RX6, "mayWrite", "(II)Z"⟩
abbrev cX6_mayPass : ByteArray := prog_1_method_31_code
def yX6_mayPass : MethodName := ⟨RX6, "mayPass", "(I)Z"⟩
abbrev cX6_mayChangeAlarm : ByteArray := prog_1_method_32_code
def yX6_mayChangeAlarm : MethodName := ⟨RX6, "mayChangeAlarm", "(III)Z"⟩
abbrev cX6_isRegister : ByteArray := prog_1_method_33_code
def yX6_isRegister : MethodName := ⟨RX6, "isRegister", "(I)Z"⟩
abbrev cX6_isCell : ByteArray := prog_1_method_34_code
def yX6_isCell : MethodName := ⟨RX6, "isCell", "(II)Z"⟩
abbrev cX6_isAlarm : ByteArray := prog_1_method_35_code
def yX6_isAlarm : MethodName := ⟨RX6, "isAlarm", "(I)Z"⟩
abbrev cX6_isMode : ByteArray := prog_1_method_36_code
def yX6_isMode : MethodName := ⟨RX6, "isMode", "(I)Z"⟩
abbrev cX6_isWithin : ByteArray := prog_1_method_37_code
def yX6_isWithin : MethodName := ⟨RX6, "isWithin", "(III)Z"⟩
abbrev cX6_bitOf : ByteArray := prog_1_method_38_code
def yX6_bitOf : MethodName := ⟨RX6, "bitOf", "(II)I"⟩
abbrev cX6_numberOf : ByteArray := prog_1_method_39_code
def yX6_numberOf : MethodName := ⟨RX6, "numberOf", "(I)I"⟩
abbrev cX6_bitsOfShare : ByteArray := prog_1_method_40_code
def yX6_bitsOfShare : MethodName := ⟨RX6, "bitsOfShare", "(F)I"⟩
def RX7 : String := "RollingDigitsModel"
def TX7 : u_T := fun k => match k with
  | 0 => ("RollingDigitsModel", "s", "[I", true)
  | 1 => ("RollingDigitsModel", "past", "[I", true)
  | 2 => ("RollingDigitsModel", "spare", "[I", true)
  | 3 => ("RollingDigitsModel", "held", "[I", true)
  | 4 => ("RollingDigitsModel", "pasts", "I", false)
  | 5 => ("RollingDigitsModel", "runs", "Z", false)
  | 6 => ("RollingDigitsModel", "text", "[I", true)
  | 7 => ("RollingDigitsModel", "typed", "I", false)
  | 8 => ("RollingDigitsModel", "told", "[I", true)
  | 9 => ("RollingDigitsModel", "ahead", "[I", true)
  | 10 => ("RollingDigitsModel", "shown", "[I", true)
  | 11 => ("RollingDigitsModel", "shows", "I", false)
  | 12 => ("RollingDigitsModel", "spot", "I", false)
  | 13 => ("RollingDigitsModel", "from", "I", false)
  | 14 => ("RollingDigitsModel", "reason", "I", false)
  | 15 => ("RollingDigitsModel", "cause", "I", false)
  | 16 => ("RollingDigitsModel", "orders", "I", false)
  | 17 => ("RollingDigitsModel", "order", "I", false)
  | _ => ("RollingDigitsModel", "numbers", "[I", true)
def tyX7 : Nat → FieldType := fun k => match k with
  | 0 => .array .int
  | 1 => .array .int
  | 2 => .array .int
  | 3 => .array .int
  | 4 => .int
  | 5 => .boolean
  | 6 => .array .int
  | 7 => .int
  | 8 => .array .int
  | 9 => .array .int
  | 10 => .array .int
  | 11 => .int
  | 12 => .int
  | 13 => .int
  | 14 => .int
  | 15 => .int
  | 16 => .int
  | 17 => .int
  | _ => .array .int
abbrev wsX70 : List Cond := u_ws RX7 TX7 19
theorem nmX7 : ∀ a, a < 19 → ∀ b, b < 19 → a ≠ b → (TX7 a).2.1 ≠ (TX7 b).2.1 := by decide +kernel
theorem tyX7_ok : ∀ k, k < 19 → parseFieldDescriptor (TX7 k).2.2.1 = some (tyX7 k) := by decide +kernel
abbrev cX7_init : ByteArray := prog_9_method_1_code
def yX7_init : MethodName := ⟨RX7, "<init>", "()V"⟩
abbrev cX7_in : ByteArray := prog_9_method_3_code
def yX7_in : MethodName := ⟨RX7, "in", "(III)Z"⟩
abbrev cX7_copies : ByteArray := prog_9_method_4_code
def yX7_copies : MethodName := ⟨RX7, "copies", "([I[I)V"⟩
abbrev cX7_changes : ByteArray := prog_9_method_5_code
def yX7_changes : MethodName := ⟨RX7, "changes", "()V"⟩
abbrev cX7_isRegister : ByteArray := prog_9_method_6_code
def yX7_isRegister : MethodName := ⟨RX7, "isRegister", "(I)Z"⟩
abbrev cX7_isAlarm : ByteArray := prog_9_method_7_code
def yX7_isAlarm : MethodName := ⟨RX7, "isAlarm", "(I)Z"⟩
abbrev cX7_number : ByteArray := prog_9_method_8_code
def yX7_number : MethodName := ⟨RX7, "number", "(I)I"⟩
abbrev cX7_isWithin : ByteArray := prog_9_method_9_code
def yX7_isWithin : MethodName := ⟨RX7, "isWithin", "(III)Z"⟩
abbrev cX7_first : ByteArray := prog_9_method_10_code
def yX7_first : MethodName := ⟨RX7, "first", "(I)I"⟩
abbrev cX7_last : ByteArray := prog_9_method_11_code
def yX7_last : MethodName := ⟨RX7, "last", "(I)I"⟩
abbrev cX7_wrong : ByteArray := prog_9_method_12_code
def yX7_wrong : MethodName := ⟨RX7, "wrong", "(I)I"⟩
abbrev cX7_lengthOf : ByteArray := prog_9_method_13_code
def yX7_lengthOf : MethodName := ⟨RX7, "lengthOf", "(IZ)I"⟩
abbrev cX7_isLeap : ByteArray := prog_9_method_14_code
def yX7_isLeap : MethodName := ⟨RX7, "isLeap", "()Z"⟩
abbrev cX7_monthLength : ByteArray := prog_9_method_15_code
def yX7_monthLength : MethodName := ⟨RX7, "monthLength", "()I"⟩
abbrev cX7_puts : ByteArray := prog_9_method_16_code
def yX7_puts : MethodName := ⟨RX7, "puts", "(II)V"⟩
abbrev cX7_stepped : ByteArray := prog_9_method_17_code
def yX7_stepped : MethodName := ⟨RX7, "stepped", "(I)I"⟩
abbrev cX7_rolls : ByteArray := prog_9_method_18_code
def yX7_rolls : MethodName := ⟨RX7, "rolls", "(I)Z"⟩
abbrev cX7_steps : ByteArray := prog_9_method_19_code
def yX7_steps : MethodName := ⟨RX7, "steps", "(I)Z"⟩
abbrev cX7_alarmAt : ByteArray := prog_9_method_20_code
def yX7_alarmAt : MethodName := ⟨RX7, "alarmAt", "(I)I"⟩
abbrev cX7_matches : ByteArray := prog_9_method_21_code
def yX7_matches : MethodName := ⟨RX7, "matches", "(I)Z"⟩
abbrev cX7_tick : ByteArray := prog_9_method_22_code
def yX7_tick : MethodName := ⟨RX7, "tick", "()V"⟩
abbrev cX7_phase : ByteArray := prog_9_method_23_code
def yX7_phase : MethodName := ⟨RX7, "phase", "()Z"⟩
abbrev cX7_passes : ByteArray := prog_9_method_24_code
def yX7_passes : MethodName := ⟨RX7, "passes", "(I)I"⟩
abbrev cX7_write : ByteArray := prog_9_method_25_code
def yX7_write : MethodName := ⟨RX7, "write", "(II)I"⟩
abbrev cX7_read : ByteArray := prog_9_method_26_code
def yX7_read : MethodName := ⟨RX7, "read", "(I)I"⟩
abbrev cX7_shows : ByteArray := prog_9_method_27_code
def yX7_shows : MethodName := ⟨RX7, "shows", "()V"⟩
abbrev cX7_readsAll : ByteArray := prog_9_method_28_code
def yX7_readsAll : MethodName := ⟨RX7, "readsAll", "()V"⟩
abbrev cX7_readsAtOnce : ByteArray := prog_9_method_29_code
def yX7_readsAtOnce : MethodName := ⟨RX7, "readsAtOnce", "()V"⟩
abbrev cX7_isAsAhead : ByteArray := prog_9_method_30_code
def yX7_isAsAhead : MethodName := ⟨RX7, "isAsAhead", "()Z"⟩
abbrev cX7_readsAgain : ByteArray := prog_9_method_31_code
def yX7_readsAgain : MethodName := ⟨RX7, "readsAgain", "()I"⟩
abbrev cX7_wasShown : ByteArray := prog_9_method_32_code
def yX7_wasShown : MethodName := ⟨RX7, "wasShown", "()Z"⟩
abbrev cX7_bursts : ByteArray := prog_9_method_33_code
def yX7_bursts : MethodName := ⟨RX7, "bursts", "(I)I"⟩
abbrev cX7_burst : ByteArray := prog_9_method_34_code
def yX7_burst : MethodName := ⟨RX7, "burst", "(I)I"⟩
abbrev cX7_pass : ByteArray := prog_9_method_35_code
def yX7_pass : MethodName := ⟨RX7, "pass", "(I)I"⟩
abbrev cX7_alarm : ByteArray := prog_9_method_36_code
def yX7_alarm : MethodName := ⟨RX7, "alarm", "(III)I"⟩
abbrev cX7_arm : ByteArray := prog_9_method_37_code
def yX7_arm : MethodName := ⟨RX7, "arm", "(II)I"⟩
abbrev cX7_flags : ByteArray := prog_9_method_38_code
def yX7_flags : MethodName := ⟨RX7, "flags", "()I"⟩
abbrev cX7_clear : ByteArray := prog_9_method_39_code
def yX7_clear : MethodName := ⟨RX7, "clear", "()I"⟩
abbrev cX7_bits : ByteArray := prog_9_method_40_code
def yX7_bits : MethodName := ⟨RX7, "bits", "(I)I"⟩
abbrev cX7_failed : ByteArray := prog_9_method_41_code
def yX7_failed : MethodName := ⟨RX7, "failed", "()I"⟩
abbrev cX7_fail : ByteArray := prog_9_method_42_code
def yX7_fail : MethodName := ⟨RX7, "fail", "(III)I"⟩
abbrev cX7_heal : ByteArray := prog_9_method_43_code
def yX7_heal : MethodName := ⟨RX7, "heal", "(II)I"⟩
abbrev cX7_set : ByteArray := prog_9_method_44_code
def yX7_set : MethodName := ⟨RX7, "set", "(II)I"⟩
abbrev cX7_wouldStep : ByteArray := prog_9_method_45_code
def yX7_wouldStep : MethodName := ⟨RX7, "wouldStep", "(I)I"⟩
abbrev cX7_registerOf : ByteArray := prog_9_method_46_code
def yX7_registerOf : MethodName := ⟨RX7, "registerOf", "(II)I"⟩
abbrev cX7_alarmOf : ByteArray := prog_9_method_47_code
def yX7_alarmOf : MethodName := ⟨RX7, "alarmOf", "(II)I"⟩
abbrev cX7_daysAhead : ByteArray := prog_9_method_48_code
def yX7_daysAhead : MethodName := ⟨RX7, "daysAhead", "(Z)I"⟩
abbrev cX7_daysBehind : ByteArray := prog_9_method_49_code
def yX7_daysBehind : MethodName := ⟨RX7, "daysBehind", "()I"⟩
abbrev cX7_date : ByteArray := prog_9_method_50_code
def yX7_date : MethodName := ⟨RX7, "date", "(I)I"⟩
abbrev cX7_log : ByteArray := prog_9_method_51_code
def yX7_log : MethodName := ⟨RX7, "log", "(II)I"⟩
abbrev cX7_readable : ByteArray := prog_9_method_52_code
def yX7_readable : MethodName := ⟨RX7, "readable", "()I"⟩
abbrev cX7_safeIn : ByteArray := prog_9_method_53_code
def yX7_safeIn : MethodName := ⟨RX7, "safeIn", "()I"⟩
abbrev cX7_ifBurst : ByteArray := prog_9_method_54_code
def yX7_ifBurst : MethodName := ⟨RX7, "ifBurst", "(II)I"⟩
abbrev cX7_comesIn : ByteArray := prog_9_method_55_code
def yX7_comesIn : MethodName := ⟨RX7, "comesIn", "(I)I"⟩
abbrev cX7_share : ByteArray := prog_9_method_56_code
def yX7_share : MethodName := ⟨RX7, "share", "()I"⟩
abbrev cX7_wrongOnes : ByteArray := prog_9_method_57_code
def yX7_wrongOnes : MethodName := ⟨RX7, "wrongOnes", "()I"⟩
abbrev cX7_count : ByteArray := prog_9_method_58_code
def yX7_count : MethodName := ⟨RX7, "count", "(I)I"⟩
abbrev cX7_undo : ByteArray := prog_9_method_59_code
def yX7_undo : MethodName := ⟨RX7, "undo", "()I"⟩
abbrev cX7_type : ByteArray := prog_9_method_60_code
def yX7_type : MethodName := ⟨RX7, "type", "(I)I"⟩
abbrev cX7_clearText : ByteArray := prog_9_method_61_code
def yX7_clearText : MethodName := ⟨RX7, "clearText", "()I"⟩
abbrev cX7_isAt : ByteArray := prog_9_method_62_code
def yX7_isAt : MethodName := ⟨RX7, "isAt", "(II)Z"⟩
abbrev cX7_sign : ByteArray := prog_9_method_63_code
def yX7_sign : MethodName := ⟨RX7, "sign", "(I)Z"⟩
abbrev cX7_numbered : ByteArray := prog_9_method_64_code
def yX7_numbered : MethodName := ⟨RX7, "numbered", "(I)Z"⟩
abbrev cX7_numbersOf : ByteArray := prog_9_method_65_code
def yX7_numbersOf : MethodName := ⟨RX7, "numbersOf", "(I)I"⟩
abbrev cX7_reads : ByteArray := prog_9_method_66_code
def yX7_reads : MethodName := ⟨RX7, "reads", "()Z"⟩
abbrev cX7_does : ByteArray := prog_9_method_67_code
def yX7_does : MethodName := ⟨RX7, "does", "()I"⟩
abbrev cX7_plays : ByteArray := prog_9_method_68_code
def yX7_plays : MethodName := ⟨RX7, "plays", "()Z"⟩
abbrev cX7_fault : ByteArray := prog_9_method_69_code
def yX7_fault : MethodName := ⟨RX7, "fault", "(I)I"⟩
abbrev cX7_play : ByteArray := prog_9_method_70_code
def yX7_play : MethodName := ⟨RX7, "play", "()I"⟩
def RJxf58ca : String := "java/lang/Float"
def TJxf58ca : u_T := fun k => match k with
  | _ => ("", "", "", false)
def tyJxf58ca : Nat → FieldType := fun k => match k with
  | _ => .int
abbrev wsJxf58ca0 : List Cond := u_ws RJxf58ca TJxf58ca 0
theorem nmJxf58ca : ∀ a, a < 0 → ∀ b, b < 0 → a ≠ b → (TJxf58ca a).2.1 ≠ (TJxf58ca b).2.1 := by decide +kernel
theorem tyJxf58ca_ok : ∀ k, k < 0 → parseFieldDescriptor (TJxf58ca k).2.2.1 = some (tyJxf58ca k) := by decide +kernel
abbrev cJxf58ca_isNaN_12338 : ByteArray := prog_10_method_6_code
def yJxf58ca_isNaN_12338 : MethodName := ⟨RJxf58ca, "isNaN", "(F)Z"⟩
abbrev cJxf58ca_floatToIntBits_5c35a : ByteArray := prog_10_method_24_code
def yJxf58ca_floatToIntBits_5c35a : MethodName := ⟨RJxf58ca, "floatToIntBits", "(F)I"⟩
def RJ6 : String := "java/lang/Integer"
def TJ6 : u_T := fun k => match k with
  | _ => ("", "", "", false)
def tyJ6 : Nat → FieldType := fun k => match k with
  | _ => .int
abbrev wsJ60 : List Cond := u_ws RJ6 TJ6 0
theorem nmJ6 : ∀ a, a < 0 → ∀ b, b < 0 → a ≠ b → (TJ6 a).2.1 ≠ (TJ6 b).2.1 := by decide +kernel
theorem tyJ6_ok : ∀ k, k < 0 → parseFieldDescriptor (TJ6 k).2.2.1 = some (tyJ6 k) := by decide +kernel
abbrev cJ6_bitCount_0f7a4 : ByteArray := prog_11_method_49_code
def yJ6_bitCount_0f7a4 : MethodName := ⟨RJ6, "bitCount", "(I)I"⟩
def RJ10 : String := "java/lang/System"
def TJ10 : u_T := fun k => match k with
  | _ => ("", "", "", false)
def tyJ10 : Nat → FieldType := fun k => match k with
  | _ => .int
abbrev wsJ100 : List Cond := u_ws RJ10 TJ10 0
theorem nmJ10 : ∀ a, a < 0 → ∀ b, b < 0 → a ≠ b → (TJ10 a).2.1 ≠ (TJ10 b).2.1 := by decide +kernel
theorem tyJ10_ok : ∀ k, k < 0 → parseFieldDescriptor (TJ10 k).2.2.1 = some (tyJ10 k) := by decide +kernel
def RL : String := "RollingDigitsLaw"
abbrev cL_law : ByteArray := code
def yL_law : MethodName := ⟨RL, "law", "([I)Z"⟩
theorem dX0_init_0 : decode cX0_init 0 = .ok (.aload_n 0, 1) := by decide +kernel
theorem dX0_init_1 : decode cX0_init 1 = .ok (.invokespecial 3, 3) := by decide +kernel
theorem dX0_init_4 : decode cX0_init 4 = .ok (.aload_n 0, 1) := by decide +kernel
theorem dX0_init_5 : decode cX0_init 5 = .ok (.iconst 3, 1) := by decide +kernel
theorem dX0_init_6 : decode cX0_init 6 = .ok (.iconst 5, 1) := by decide +kernel
theorem dX0_init_7 : decode cX0_init 7 = .ok (.multianewarray 9 2, 4) := by decide +kernel
theorem dX0_init_11 : decode cX0_init 11 = .ok (.putfield 11, 3) := by decide +kernel
theorem dX0_init_14 : decode cX0_init 14 = .ok (.aload_n 0, 1) := by decide +kernel
theorem dX0_init_15 : decode cX0_init 15 = .ok (.iconst 3, 1) := by decide +kernel
theorem dX0_init_16 : decode cX0_init 16 = .ok (.newarray .int, 2) := by decide +kernel
theorem dX0_init_18 : decode cX0_init 18 = .ok (.putfield 16, 3) := by decide +kernel
theorem dX0_init_21 : decode cX0_init 21 = .ok (.aload_n 0, 1) := by decide +kernel
theorem dX0_init_22 : decode cX0_init 22 = .ok (.iconst 3, 1) := by decide +kernel
theorem dX0_init_23 : decode cX0_init 23 = .ok (.newarray .int, 2) := by decide +kernel
theorem dX0_init_25 : decode cX0_init 25 = .ok (.putfield 20, 3) := by decide +kernel
theorem dX0_init_28 : decode cX0_init 28 = .ok (.return_, 1) := by decide +kernel
theorem dX0_copyFrom_0 : decode cX0_copyFrom 0 = .ok (.iconst 0, 1) := by decide +kernel
theorem dX0_copyFrom_1 : decode cX0_copyFrom 1 = .ok (.istore_n 2, 1) := by decide +kernel
theorem dX0_copyFrom_2 : decode cX0_copyFrom 2 = .ok (.iload_n 2, 1) := by decide +kernel
theorem dX0_copyFrom_3 : decode cX0_copyFrom 3 = .ok (.iconst 3, 1) := by decide +kernel
theorem dX0_copyFrom_4 : decode cX0_copyFrom 4 = .ok (.if_icmp .ge 27, 3) := by decide +kernel
theorem dX0_copyFrom_7 : decode cX0_copyFrom 7 = .ok (.aload_n 1, 1) := by decide +kernel
theorem dX0_copyFrom_8 : decode cX0_copyFrom 8 = .ok (.getfield 11, 3) := by decide +kernel
theorem dX0_copyFrom_11 : decode cX0_copyFrom 11 = .ok (.iload_n 2, 1) := by decide +kernel
theorem dX0_copyFrom_12 : decode cX0_copyFrom 12 = .ok (.aaload, 1) := by decide +kernel
theorem dX0_copyFrom_13 : decode cX0_copyFrom 13 = .ok (.iconst 0, 1) := by decide +kernel
theorem dX0_copyFrom_14 : decode cX0_copyFrom 14 = .ok (.aload_n 0, 1) := by decide +kernel
theorem dX0_copyFrom_15 : decode cX0_copyFrom 15 = .ok (.getfield 11, 3) := by decide +kernel
theorem dX0_copyFrom_18 : decode cX0_copyFrom 18 = .ok (.iload_n 2, 1) := by decide +kernel
theorem dX0_copyFrom_19 : decode cX0_copyFrom 19 = .ok (.aaload, 1) := by decide +kernel
theorem dX0_copyFrom_20 : decode cX0_copyFrom 20 = .ok (.iconst 0, 1) := by decide +kernel
theorem dX0_copyFrom_21 : decode cX0_copyFrom 21 = .ok (.iconst 5, 1) := by decide +kernel
theorem dX0_copyFrom_22 : decode cX0_copyFrom 22 = .ok (.invokestatic 23, 3) := by decide +kernel
theorem dX0_copyFrom_25 : decode cX0_copyFrom 25 = .ok (.iinc 2 1, 3) := by decide +kernel
theorem dX0_copyFrom_28 : decode cX0_copyFrom 28 = .ok (.goto (-26), 3) := by decide +kernel
theorem dX0_copyFrom_31 : decode cX0_copyFrom 31 = .ok (.aload_n 1, 1) := by decide +kernel
theorem dX0_copyFrom_32 : decode cX0_copyFrom 32 = .ok (.getfield 16, 3) := by decide +kernel
theorem dX0_copyFrom_35 : decode cX0_copyFrom 35 = .ok (.iconst 0, 1) := by decide +kernel
theorem dX0_copyFrom_36 : decode cX0_copyFrom 36 = .ok (.aload_n 0, 1) := by decide +kernel
theorem dX0_copyFrom_37 : decode cX0_copyFrom 37 = .ok (.getfield 16, 3) := by decide +kernel
theorem dX0_copyFrom_40 : decode cX0_copyFrom 40 = .ok (.iconst 0, 1) := by decide +kernel
theorem dX0_copyFrom_41 : decode cX0_copyFrom 41 = .ok (.iconst 3, 1) := by decide +kernel
theorem dX0_copyFrom_42 : decode cX0_copyFrom 42 = .ok (.invokestatic 23, 3) := by decide +kernel
theorem dX0_copyFrom_45 : decode cX0_copyFrom 45 = .ok (.aload_n 1, 1) := by decide +kernel
theorem dX0_copyFrom_46 : decode cX0_copyFrom 46 = .ok (.getfield 20, 3) := by decide +kernel
theorem dX0_copyFrom_49 : decode cX0_copyFrom 49 = .ok (.iconst 0, 1) := by decide +kernel
theorem dX0_copyFrom_50 : decode cX0_copyFrom 50 = .ok (.aload_n 0, 1) := by decide +kernel
theorem dX0_copyFrom_51 : decode cX0_copyFrom 51 = .ok (.getfield 20, 3) := by decide +kernel
theorem dX0_copyFrom_54 : decode cX0_copyFrom 54 = .ok (.iconst 0, 1) := by decide +kernel
theorem dX0_copyFrom_55 : decode cX0_copyFrom 55 = .ok (.iconst 3, 1) := by decide +kernel
theorem dX0_copyFrom_56 : decode cX0_copyFrom 56 = .ok (.invokestatic 23, 3) := by decide +kernel
theorem dX0_copyFrom_59 : decode cX0_copyFrom 59 = .ok (.aload_n 0, 1) := by decide +kernel
theorem dX0_copyFrom_60 : decode cX0_copyFrom 60 = .ok (.aload_n 1, 1) := by decide +kernel
theorem dX0_copyFrom_61 : decode cX0_copyFrom 61 = .ok (.getfield 29, 3) := by decide +kernel
theorem dX0_copyFrom_64 : decode cX0_copyFrom 64 = .ok (.putfield 29, 3) := by decide +kernel
theorem dX0_copyFrom_67 : decode cX0_copyFrom 67 = .ok (.aload_n 0, 1) := by decide +kernel
theorem dX0_copyFrom_68 : decode cX0_copyFrom 68 = .ok (.aload_n 1, 1) := by decide +kernel
theorem dX0_copyFrom_69 : decode cX0_copyFrom 69 = .ok (.getfield 33, 3) := by decide +kernel
theorem dX0_copyFrom_72 : decode cX0_copyFrom 72 = .ok (.putfield 33, 3) := by decide +kernel
theorem dX0_copyFrom_75 : decode cX0_copyFrom 75 = .ok (.return_, 1) := by decide +kernel
theorem dX0_changeValue_0 : decode cX0_changeValue 0 = .ok (.aload_n 0, 1) := by decide +kernel
theorem dX0_changeValue_1 : decode cX0_changeValue 1 = .ok (.getfield 11, 3) := by decide +kernel
theorem dX0_changeValue_4 : decode cX0_changeValue 4 = .ok (.iload_n 1, 1) := by decide +kernel
theorem dX0_changeValue_5 : decode cX0_changeValue 5 = .ok (.aaload, 1) := by decide +kernel
theorem dX0_changeValue_6 : decode cX0_changeValue 6 = .ok (.iload_n 2, 1) := by decide +kernel
theorem dX0_changeValue_7 : decode cX0_changeValue 7 = .ok (.iaload, 1) := by decide +kernel
theorem dX0_changeValue_8 : decode cX0_changeValue 8 = .ok (.istore 4, 2) := by decide +kernel
theorem dX0_changeValue_10 : decode cX0_changeValue 10 = .ok (.aload_n 0, 1) := by decide +kernel
theorem dX0_changeValue_11 : decode cX0_changeValue 11 = .ok (.getfield 11, 3) := by decide +kernel
theorem dX0_changeValue_14 : decode cX0_changeValue 14 = .ok (.iload_n 1, 1) := by decide +kernel
theorem dX0_changeValue_15 : decode cX0_changeValue 15 = .ok (.aaload, 1) := by decide +kernel
theorem dX0_changeValue_16 : decode cX0_changeValue 16 = .ok (.iload_n 2, 1) := by decide +kernel
theorem dX0_changeValue_17 : decode cX0_changeValue 17 = .ok (.iload_n 3, 1) := by decide +kernel
theorem dX0_changeValue_18 : decode cX0_changeValue 18 = .ok (.iastore, 1) := by decide +kernel
theorem dX0_changeValue_19 : decode cX0_changeValue 19 = .ok (.iload 4, 2) := by decide +kernel
theorem dX0_changeValue_21 : decode cX0_changeValue 21 = .ok (.ireturn, 1) := by decide +kernel
theorem dX0_changeMask_0 : decode cX0_changeMask 0 = .ok (.aload_n 0, 1) := by decide +kernel
theorem dX0_changeMask_1 : decode cX0_changeMask 1 = .ok (.getfield 29, 3) := by decide +kernel
theorem dX0_changeMask_4 : decode cX0_changeMask 4 = .ok (.iload_n 1, 1) := by decide +kernel
theorem dX0_changeMask_5 : decode cX0_changeMask 5 = .ok (.invokestatic 36, 3) := by decide +kernel
theorem dX0_changeMask_8 : decode cX0_changeMask 8 = .ok (.istore_n 3, 1) := by decide +kernel
theorem dX0_changeMask_9 : decode cX0_changeMask 9 = .ok (.iload_n 2, 1) := by decide +kernel
theorem dX0_changeMask_10 : decode cX0_changeMask 10 = .ok (.iconst (-1), 1) := by decide +kernel
theorem dX0_changeMask_11 : decode cX0_changeMask 11 = .ok (.if_icmp .ne 20, 3) := by decide +kernel
theorem dX0_changeMask_14 : decode cX0_changeMask 14 = .ok (.aload_n 0, 1) := by decide +kernel
theorem dX0_changeMask_15 : decode cX0_changeMask 15 = .ok (.dup, 1) := by decide +kernel
theorem dX0_changeMask_16 : decode cX0_changeMask 16 = .ok (.getfield 29, 3) := by decide +kernel
theorem dX0_changeMask_19 : decode cX0_changeMask 19 = .ok (.iconst 1, 1) := by decide +kernel
theorem dX0_changeMask_20 : decode cX0_changeMask 20 = .ok (.iload_n 1, 1) := by decide +kernel
theorem dX0_changeMask_21 : decode cX0_changeMask 21 = .ok (.ishl, 1) := by decide +kernel
theorem dX0_changeMask_22 : decode cX0_changeMask 22 = .ok (.iconst (-1), 1) := by decide +kernel
theorem dX0_changeMask_23 : decode cX0_changeMask 23 = .ok (.ixor, 1) := by decide +kernel
theorem dX0_changeMask_24 : decode cX0_changeMask 24 = .ok (.iand, 1) := by decide +kernel
theorem dX0_changeMask_25 : decode cX0_changeMask 25 = .ok (.putfield 29, 3) := by decide +kernel
theorem dX0_changeMask_28 : decode cX0_changeMask 28 = .ok (.goto 22, 3) := by decide +kernel
theorem dX0_changeMask_31 : decode cX0_changeMask 31 = .ok (.aload_n 0, 1) := by decide +kernel
theorem dX0_changeMask_32 : decode cX0_changeMask 32 = .ok (.dup, 1) := by decide +kernel
theorem dX0_changeMask_33 : decode cX0_changeMask 33 = .ok (.getfield 29, 3) := by decide +kernel
theorem dX0_changeMask_36 : decode cX0_changeMask 36 = .ok (.iconst 1, 1) := by decide +kernel
theorem dX0_changeMask_37 : decode cX0_changeMask 37 = .ok (.iload_n 1, 1) := by decide +kernel
theorem dX0_changeMask_38 : decode cX0_changeMask 38 = .ok (.ishl, 1) := by decide +kernel
theorem dX0_changeMask_39 : decode cX0_changeMask 39 = .ok (.ior, 1) := by decide +kernel
theorem dX0_changeMask_40 : decode cX0_changeMask 40 = .ok (.putfield 29, 3) := by decide +kernel
theorem dX0_changeMask_43 : decode cX0_changeMask 43 = .ok (.aload_n 0, 1) := by decide +kernel
theorem dX0_changeMask_44 : decode cX0_changeMask 44 = .ok (.getfield 16, 3) := by decide +kernel
theorem dX0_changeMask_47 : decode cX0_changeMask 47 = .ok (.iload_n 1, 1) := by decide +kernel
theorem dX0_changeMask_48 : decode cX0_changeMask 48 = .ok (.iload_n 2, 1) := by decide +kernel
theorem dX0_changeMask_49 : decode cX0_changeMask 49 = .ok (.iastore, 1) := by decide +kernel
theorem dX0_changeMask_50 : decode cX0_changeMask 50 = .ok (.iload_n 3, 1) := by decide +kernel
theorem dX0_changeMask_51 : decode cX0_changeMask 51 = .ok (.ireturn, 1) := by decide +kernel
theorem dX0_matches_0 : decode cX0_matches 0 = .ok (.iconst 0, 1) := by decide +kernel
theorem dX0_matches_1 : decode cX0_matches 1 = .ok (.istore_n 3, 1) := by decide +kernel
theorem dX0_matches_2 : decode cX0_matches 2 = .ok (.iload_n 3, 1) := by decide +kernel
theorem dX0_matches_3 : decode cX0_matches 3 = .ok (.iconst 5, 1) := by decide +kernel
theorem dX0_matches_4 : decode cX0_matches 4 = .ok (.if_icmp .ge 54, 3) := by decide +kernel
theorem dX0_matches_7 : decode cX0_matches 7 = .ok (.aload_n 0, 1) := by decide +kernel
theorem dX0_matches_8 : decode cX0_matches 8 = .ok (.getfield 16, 3) := by decide +kernel
theorem dX0_matches_11 : decode cX0_matches 11 = .ok (.iload_n 1, 1) := by decide +kernel
theorem dX0_matches_12 : decode cX0_matches 12 = .ok (.iaload, 1) := by decide +kernel
theorem dX0_matches_13 : decode cX0_matches 13 = .ok (.iload_n 3, 1) := by decide +kernel
theorem dX0_matches_14 : decode cX0_matches 14 = .ok (.invokestatic 36, 3) := by decide +kernel
theorem dX0_matches_17 : decode cX0_matches 17 = .ok (.iconst 1, 1) := by decide +kernel
theorem dX0_matches_18 : decode cX0_matches 18 = .ok (.if_icmp .ne 7, 3) := by decide +kernel
theorem dX0_matches_21 : decode cX0_matches 21 = .ok (.iconst 1, 1) := by decide +kernel
theorem dX0_matches_22 : decode cX0_matches 22 = .ok (.goto 4, 3) := by decide +kernel
theorem dX0_matches_25 : decode cX0_matches 25 = .ok (.iconst 0, 1) := by decide +kernel
theorem dX0_matches_26 : decode cX0_matches 26 = .ok (.istore 4, 2) := by decide +kernel
theorem dX0_matches_28 : decode cX0_matches 28 = .ok (.iload 4, 2) := by decide +kernel
theorem dX0_matches_30 : decode cX0_matches 30 = .ok (.ifCond .ne 22, 3) := by decide +kernel
theorem dX0_matches_33 : decode cX0_matches 33 = .ok (.aload_n 2, 1) := by decide +kernel
theorem dX0_matches_34 : decode cX0_matches 34 = .ok (.getfield 40, 3) := by decide +kernel
theorem dX0_matches_37 : decode cX0_matches 37 = .ok (.iload_n 3, 1) := by decide +kernel
theorem dX0_matches_38 : decode cX0_matches 38 = .ok (.iaload, 1) := by decide +kernel
theorem dX0_matches_39 : decode cX0_matches 39 = .ok (.aload_n 0, 1) := by decide +kernel
theorem dX0_matches_40 : decode cX0_matches 40 = .ok (.getfield 11, 3) := by decide +kernel
theorem dX0_matches_43 : decode cX0_matches 43 = .ok (.iload_n 1, 1) := by decide +kernel
theorem dX0_matches_44 : decode cX0_matches 44 = .ok (.aaload, 1) := by decide +kernel
theorem dX0_matches_45 : decode cX0_matches 45 = .ok (.iload_n 3, 1) := by decide +kernel
theorem dX0_matches_46 : decode cX0_matches 46 = .ok (.iaload, 1) := by decide +kernel
theorem dX0_matches_47 : decode cX0_matches 47 = .ok (.if_icmp .eq 5, 3) := by decide +kernel
theorem dX0_matches_50 : decode cX0_matches 50 = .ok (.iconst 0, 1) := by decide +kernel
theorem dX0_matches_51 : decode cX0_matches 51 = .ok (.ireturn, 1) := by decide +kernel
theorem dX0_matches_52 : decode cX0_matches 52 = .ok (.iinc 3 1, 3) := by decide +kernel
theorem dX0_matches_55 : decode cX0_matches 55 = .ok (.goto (-53), 3) := by decide +kernel
theorem dX0_matches_58 : decode cX0_matches 58 = .ok (.iconst 1, 1) := by decide +kernel
theorem dX0_matches_59 : decode cX0_matches 59 = .ok (.ireturn, 1) := by decide +kernel
theorem dX0_comeIfDue_0 : decode cX0_comeIfDue 0 = .ok (.iconst 0, 1) := by decide +kernel
theorem dX0_comeIfDue_1 : decode cX0_comeIfDue 1 = .ok (.istore_n 2, 1) := by decide +kernel
theorem dX0_comeIfDue_2 : decode cX0_comeIfDue 2 = .ok (.iload_n 2, 1) := by decide +kernel
theorem dX0_comeIfDue_3 : decode cX0_comeIfDue 3 = .ok (.iconst 3, 1) := by decide +kernel
theorem dX0_comeIfDue_4 : decode cX0_comeIfDue 4 = .ok (.if_icmp .ge 52, 3) := by decide +kernel
theorem dX0_comeIfDue_7 : decode cX0_comeIfDue 7 = .ok (.aload_n 0, 1) := by decide +kernel
theorem dX0_comeIfDue_8 : decode cX0_comeIfDue 8 = .ok (.getfield 29, 3) := by decide +kernel
theorem dX0_comeIfDue_11 : decode cX0_comeIfDue 11 = .ok (.iload_n 2, 1) := by decide +kernel
theorem dX0_comeIfDue_12 : decode cX0_comeIfDue 12 = .ok (.invokestatic 36, 3) := by decide +kernel
theorem dX0_comeIfDue_15 : decode cX0_comeIfDue 15 = .ok (.iconst 1, 1) := by decide +kernel
theorem dX0_comeIfDue_16 : decode cX0_comeIfDue 16 = .ok (.if_icmp .ne 34, 3) := by decide +kernel
theorem dX0_comeIfDue_19 : decode cX0_comeIfDue 19 = .ok (.aload_n 0, 1) := by decide +kernel
theorem dX0_comeIfDue_20 : decode cX0_comeIfDue 20 = .ok (.iload_n 2, 1) := by decide +kernel
theorem dX0_comeIfDue_21 : decode cX0_comeIfDue 21 = .ok (.aload_n 1, 1) := by decide +kernel
theorem dX0_comeIfDue_22 : decode cX0_comeIfDue 22 = .ok (.invokevirtual 44, 3) := by decide +kernel
theorem dX0_comeIfDue_25 : decode cX0_comeIfDue 25 = .ok (.ifCond .eq 25, 3) := by decide +kernel
theorem dX0_comeIfDue_28 : decode cX0_comeIfDue 28 = .ok (.aload_n 0, 1) := by decide +kernel
theorem dX0_comeIfDue_29 : decode cX0_comeIfDue 29 = .ok (.dup, 1) := by decide +kernel
theorem dX0_comeIfDue_30 : decode cX0_comeIfDue 30 = .ok (.getfield 33, 3) := by decide +kernel
theorem dX0_comeIfDue_33 : decode cX0_comeIfDue 33 = .ok (.iconst 1, 1) := by decide +kernel
theorem dX0_comeIfDue_34 : decode cX0_comeIfDue 34 = .ok (.iload_n 2, 1) := by decide +kernel
theorem dX0_comeIfDue_35 : decode cX0_comeIfDue 35 = .ok (.ishl, 1) := by decide +kernel
theorem dX0_comeIfDue_36 : decode cX0_comeIfDue 36 = .ok (.ior, 1) := by decide +kernel
theorem dX0_comeIfDue_37 : decode cX0_comeIfDue 37 = .ok (.putfield 33, 3) := by decide +kernel
theorem dX0_comeIfDue_40 : decode cX0_comeIfDue 40 = .ok (.aload_n 0, 1) := by decide +kernel
theorem dX0_comeIfDue_41 : decode cX0_comeIfDue 41 = .ok (.getfield 20, 3) := by decide +kernel
theorem dX0_comeIfDue_44 : decode cX0_comeIfDue 44 = .ok (.iload_n 2, 1) := by decide +kernel
theorem dX0_comeIfDue_45 : decode cX0_comeIfDue 45 = .ok (.dup2, 1) := by decide +kernel
theorem dX0_comeIfDue_46 : decode cX0_comeIfDue 46 = .ok (.iaload, 1) := by decide +kernel
theorem dX0_comeIfDue_47 : decode cX0_comeIfDue 47 = .ok (.iconst 1, 1) := by decide +kernel
theorem dX0_comeIfDue_48 : decode cX0_comeIfDue 48 = .ok (.iadd, 1) := by decide +kernel
theorem dX0_comeIfDue_49 : decode cX0_comeIfDue 49 = .ok (.iastore, 1) := by decide +kernel
theorem dX0_comeIfDue_50 : decode cX0_comeIfDue 50 = .ok (.iinc 2 1, 3) := by decide +kernel
theorem dX0_comeIfDue_53 : decode cX0_comeIfDue 53 = .ok (.goto (-51), 3) := by decide +kernel
theorem dX0_comeIfDue_56 : decode cX0_comeIfDue 56 = .ok (.return_, 1) := by decide +kernel
theorem dX0_cameInAll_0 : decode cX0_cameInAll 0 = .ok (.iconst 0, 1) := by decide +kernel
theorem dX0_cameInAll_1 : decode cX0_cameInAll 1 = .ok (.istore_n 1, 1) := by decide +kernel
theorem dX0_cameInAll_2 : decode cX0_cameInAll 2 = .ok (.iconst 0, 1) := by decide +kernel
theorem dX0_cameInAll_3 : decode cX0_cameInAll 3 = .ok (.istore_n 2, 1) := by decide +kernel
theorem dX0_cameInAll_4 : decode cX0_cameInAll 4 = .ok (.iload_n 2, 1) := by decide +kernel
theorem dX0_cameInAll_5 : decode cX0_cameInAll 5 = .ok (.iconst 3, 1) := by decide +kernel
theorem dX0_cameInAll_6 : decode cX0_cameInAll 6 = .ok (.if_icmp .ge 18, 3) := by decide +kernel
theorem dX0_cameInAll_9 : decode cX0_cameInAll 9 = .ok (.iload_n 1, 1) := by decide +kernel
theorem dX0_cameInAll_10 : decode cX0_cameInAll 10 = .ok (.aload_n 0, 1) := by decide +kernel
theorem dX0_cameInAll_11 : decode cX0_cameInAll 11 = .ok (.getfield 20, 3) := by decide +kernel
theorem dX0_cameInAll_14 : decode cX0_cameInAll 14 = .ok (.iload_n 2, 1) := by decide +kernel
theorem dX0_cameInAll_15 : decode cX0_cameInAll 15 = .ok (.iaload, 1) := by decide +kernel
theorem dX0_cameInAll_16 : decode cX0_cameInAll 16 = .ok (.iadd, 1) := by decide +kernel
theorem dX0_cameInAll_17 : decode cX0_cameInAll 17 = .ok (.istore_n 1, 1) := by decide +kernel
theorem dX0_cameInAll_18 : decode cX0_cameInAll 18 = .ok (.iinc 2 1, 3) := by decide +kernel
theorem dX0_cameInAll_21 : decode cX0_cameInAll 21 = .ok (.goto (-17), 3) := by decide +kernel
theorem dX0_cameInAll_24 : decode cX0_cameInAll 24 = .ok (.iload_n 1, 1) := by decide +kernel
theorem dX0_cameInAll_25 : decode cX0_cameInAll 25 = .ok (.ireturn, 1) := by decide +kernel
theorem dX1_init_0 : decode cX1_init 0 = .ok (.aload_n 0, 1) := by decide +kernel
theorem dX1_init_1 : decode cX1_init 1 = .ok (.invokespecial 3, 3) := by decide +kernel
theorem dX1_init_4 : decode cX1_init 4 = .ok (.aload_n 0, 1) := by decide +kernel
theorem dX1_init_5 : decode cX1_init 5 = .ok (.bipush 10, 2) := by decide +kernel
theorem dX1_init_7 : decode cX1_init 7 = .ok (.newarray .int, 2) := by decide +kernel
theorem dX1_init_9 : decode cX1_init 9 = .ok (.putfield 9, 3) := by decide +kernel
theorem dX1_init_12 : decode cX1_init 12 = .ok (.aload_n 0, 1) := by decide +kernel
theorem dX1_init_13 : decode cX1_init 13 = .ok (.bipush 7, 2) := by decide +kernel
theorem dX1_init_15 : decode cX1_init 15 = .ok (.newarray .int, 2) := by decide +kernel
theorem dX1_init_17 : decode cX1_init 17 = .ok (.putfield 15, 3) := by decide +kernel
theorem dX1_init_20 : decode cX1_init 20 = .ok (.aload_n 0, 1) := by decide +kernel
theorem dX1_init_21 : decode cX1_init 21 = .ok (.bipush 13, 2) := by decide +kernel
theorem dX1_init_23 : decode cX1_init 23 = .ok (.bipush 7, 2) := by decide +kernel
theorem dX1_init_25 : decode cX1_init 25 = .ok (.multianewarray 18 2, 4) := by decide +kernel
theorem dX1_init_29 : decode cX1_init 29 = .ok (.putfield 20, 3) := by decide +kernel
theorem dX1_init_32 : decode cX1_init 32 = .ok (.return_, 1) := by decide +kernel
theorem dX1_make_0 : decode cX1_make 0 = .ok (.iconst 1, 1) := by decide +kernel
theorem dX1_make_1 : decode cX1_make 1 = .ok (.istore_n 3, 1) := by decide +kernel
theorem dX1_make_2 : decode cX1_make 2 = .ok (.iload_n 2, 1) := by decide +kernel
theorem dX1_make_3 : decode cX1_make 3 = .ok (.iconst 1, 1) := by decide +kernel
theorem dX1_make_4 : decode cX1_make 4 = .ok (.if_icmp .ne 28, 3) := by decide +kernel
theorem dX1_make_7 : decode cX1_make 7 = .ok (.aload_n 0, 1) := by decide +kernel
theorem dX1_make_8 : decode cX1_make 8 = .ok (.aload_n 1, 1) := by decide +kernel
theorem dX1_make_9 : decode cX1_make 9 = .ok (.getfield 23, 3) := by decide +kernel
theorem dX1_make_12 : decode cX1_make 12 = .ok (.invokevirtual 29, 3) := by decide +kernel
theorem dX1_make_15 : decode cX1_make 15 = .ok (.aload_n 1, 1) := by decide +kernel
theorem dX1_make_16 : decode cX1_make 16 = .ok (.bipush 7, 2) := by decide +kernel
theorem dX1_make_18 : decode cX1_make 18 = .ok (.aload_n 1, 1) := by decide +kernel
theorem dX1_make_19 : decode cX1_make 19 = .ok (.getfield 33, 3) := by decide +kernel
theorem dX1_make_22 : decode cX1_make 22 = .ok (.iconst 0, 1) := by decide +kernel
theorem dX1_make_23 : decode cX1_make 23 = .ok (.iaload, 1) := by decide +kernel
theorem dX1_make_24 : decode cX1_make 24 = .ok (.imul, 1) := by decide +kernel
theorem dX1_make_25 : decode cX1_make 25 = .ok (.invokevirtual 36, 3) := by decide +kernel
theorem dX1_make_28 : decode cX1_make 28 = .ok (.pop, 1) := by decide +kernel
theorem dX1_make_29 : decode cX1_make 29 = .ok (.goto 8, 3) := by decide +kernel
theorem dX1_make_32 : decode cX1_make 32 = .ok (.aload_n 0, 1) := by decide +kernel
theorem dX1_make_33 : decode cX1_make 33 = .ok (.aload_n 1, 1) := by decide +kernel
theorem dX1_make_34 : decode cX1_make 34 = .ok (.invokevirtual 40, 3) := by decide +kernel
theorem dX1_make_37 : decode cX1_make 37 = .ok (.iload_n 2, 1) := by decide +kernel
theorem dX1_make_38 : decode cX1_make 38 = .ok (.iconst 2, 1) := by decide +kernel
theorem dX1_make_39 : decode cX1_make 39 = .ok (.if_icmp .eq 7, 3) := by decide +kernel
theorem dX1_make_42 : decode cX1_make 42 = .ok (.iconst 1, 1) := by decide +kernel
theorem dX1_make_43 : decode cX1_make 43 = .ok (.goto 4, 3) := by decide +kernel
theorem dX1_make_46 : decode cX1_make 46 = .ok (.iconst 0, 1) := by decide +kernel
theorem dX1_make_47 : decode cX1_make 47 = .ok (.istore 4, 2) := by decide +kernel
theorem dX1_make_49 : decode cX1_make 49 = .ok (.iload_n 3, 1) := by decide +kernel
theorem dX1_make_50 : decode cX1_make 50 = .ok (.iconst 5, 1) := by decide +kernel
theorem dX1_make_51 : decode cX1_make 51 = .ok (.if_icmp .ge 44, 3) := by decide +kernel
theorem dX1_make_54 : decode cX1_make 54 = .ok (.iload 4, 2) := by decide +kernel
theorem dX1_make_56 : decode cX1_make 56 = .ok (.ifCond .ne 39, 3) := by decide +kernel
theorem dX1_make_59 : decode cX1_make 59 = .ok (.aload_n 0, 1) := by decide +kernel
theorem dX1_make_60 : decode cX1_make 60 = .ok (.getfield 9, 3) := by decide +kernel
theorem dX1_make_63 : decode cX1_make 63 = .ok (.iconst 0, 1) := by decide +kernel
theorem dX1_make_64 : decode cX1_make 64 = .ok (.aload_n 0, 1) := by decide +kernel
theorem dX1_make_65 : decode cX1_make 65 = .ok (.getfield 15, 3) := by decide +kernel
theorem dX1_make_68 : decode cX1_make 68 = .ok (.iconst 0, 1) := by decide +kernel
theorem dX1_make_69 : decode cX1_make 69 = .ok (.bipush 7, 2) := by decide +kernel
theorem dX1_make_71 : decode cX1_make 71 = .ok (.invokestatic 44, 3) := by decide +kernel
theorem dX1_make_74 : decode cX1_make 74 = .ok (.aload_n 0, 1) := by decide +kernel
theorem dX1_make_75 : decode cX1_make 75 = .ok (.aload_n 1, 1) := by decide +kernel
theorem dX1_make_76 : decode cX1_make 76 = .ok (.invokevirtual 40, 3) := by decide +kernel
theorem dX1_make_79 : decode cX1_make 79 = .ok (.iinc 3 1, 3) := by decide +kernel
theorem dX1_make_82 : decode cX1_make 82 = .ok (.aload_n 0, 1) := by decide +kernel
theorem dX1_make_83 : decode cX1_make 83 = .ok (.aload_n 0, 1) := by decide +kernel
theorem dX1_make_84 : decode cX1_make 84 = .ok (.getfield 15, 3) := by decide +kernel
theorem dX1_make_87 : decode cX1_make 87 = .ok (.invokevirtual 50, 3) := by decide +kernel
theorem dX1_make_90 : decode cX1_make 90 = .ok (.istore 4, 2) := by decide +kernel
theorem dX1_make_92 : decode cX1_make 92 = .ok (.goto (-43), 3) := by decide +kernel
theorem dX1_make_95 : decode cX1_make 95 = .ok (.aload_n 0, 1) := by decide +kernel
theorem dX1_make_96 : decode cX1_make 96 = .ok (.getfield 9, 3) := by decide +kernel
theorem dX1_make_99 : decode cX1_make 99 = .ok (.bipush 7, 2) := by decide +kernel
theorem dX1_make_101 : decode cX1_make 101 = .ok (.iload_n 2, 1) := by decide +kernel
theorem dX1_make_102 : decode cX1_make 102 = .ok (.iastore, 1) := by decide +kernel
theorem dX1_make_103 : decode cX1_make 103 = .ok (.aload_n 0, 1) := by decide +kernel
theorem dX1_make_104 : decode cX1_make 104 = .ok (.getfield 9, 3) := by decide +kernel
theorem dX1_make_107 : decode cX1_make 107 = .ok (.bipush 8, 2) := by decide +kernel
theorem dX1_make_109 : decode cX1_make 109 = .ok (.aload_n 0, 1) := by decide +kernel
theorem dX1_make_110 : decode cX1_make 110 = .ok (.invokevirtual 54, 3) := by decide +kernel
theorem dX1_make_113 : decode cX1_make 113 = .ok (.ifCond .eq 7, 3) := by decide +kernel
theorem dX1_make_116 : decode cX1_make 116 = .ok (.iconst 1, 1) := by decide +kernel
theorem dX1_make_117 : decode cX1_make 117 = .ok (.goto 4, 3) := by decide +kernel
theorem dX1_make_120 : decode cX1_make 120 = .ok (.iconst 0, 1) := by decide +kernel
theorem dX1_make_121 : decode cX1_make 121 = .ok (.iastore, 1) := by decide +kernel
theorem dX1_make_122 : decode cX1_make 122 = .ok (.aload_n 0, 1) := by decide +kernel
theorem dX1_make_123 : decode cX1_make 123 = .ok (.getfield 9, 3) := by decide +kernel
theorem dX1_make_126 : decode cX1_make 126 = .ok (.bipush 9, 2) := by decide +kernel
theorem dX1_make_128 : decode cX1_make 128 = .ok (.iload_n 3, 1) := by decide +kernel
theorem dX1_make_129 : decode cX1_make 129 = .ok (.iastore, 1) := by decide +kernel
theorem dX1_make_130 : decode cX1_make 130 = .ok (.aload_n 1, 1) := by decide +kernel
theorem dX1_make_131 : decode cX1_make 131 = .ok (.aload_n 0, 1) := by decide +kernel
theorem dX1_make_132 : decode cX1_make 132 = .ok (.getfield 9, 3) := by decide +kernel
theorem dX1_make_135 : decode cX1_make 135 = .ok (.invokevirtual 58, 3) := by decide +kernel
theorem dX1_make_138 : decode cX1_make 138 = .ok (.return_, 1) := by decide +kernel
theorem dX1_seeAtOnce_0 : decode cX1_seeAtOnce 0 = .ok (.aload_n 0, 1) := by decide +kernel
theorem dX1_seeAtOnce_1 : decode cX1_seeAtOnce 1 = .ok (.iconst 0, 1) := by decide +kernel
theorem dX1_seeAtOnce_2 : decode cX1_seeAtOnce 2 = .ok (.putfield 62, 3) := by decide +kernel
theorem dX1_seeAtOnce_5 : decode cX1_seeAtOnce 5 = .ok (.aload_n 0, 1) := by decide +kernel
theorem dX1_seeAtOnce_6 : decode cX1_seeAtOnce 6 = .ok (.aload_n 1, 1) := by decide +kernel
theorem dX1_seeAtOnce_7 : decode cX1_seeAtOnce 7 = .ok (.invokevirtual 66, 3) := by decide +kernel
theorem dX1_seeAtOnce_10 : decode cX1_seeAtOnce 10 = .ok (.aload_n 1, 1) := by decide +kernel
theorem dX1_seeAtOnce_11 : decode cX1_seeAtOnce 11 = .ok (.getfield 69, 3) := by decide +kernel
theorem dX1_seeAtOnce_14 : decode cX1_seeAtOnce 14 = .ok (.iconst 0, 1) := by decide +kernel
theorem dX1_seeAtOnce_15 : decode cX1_seeAtOnce 15 = .ok (.aload_n 0, 1) := by decide +kernel
theorem dX1_seeAtOnce_16 : decode cX1_seeAtOnce 16 = .ok (.getfield 9, 3) := by decide +kernel
theorem dX1_seeAtOnce_19 : decode cX1_seeAtOnce 19 = .ok (.iconst 0, 1) := by decide +kernel
theorem dX1_seeAtOnce_20 : decode cX1_seeAtOnce 20 = .ok (.bipush 7, 2) := by decide +kernel
theorem dX1_seeAtOnce_22 : decode cX1_seeAtOnce 22 = .ok (.invokestatic 44, 3) := by decide +kernel
theorem dX1_seeAtOnce_25 : decode cX1_seeAtOnce 25 = .ok (.return_, 1) := by decide +kernel
theorem dX1_readInTurn_0 : decode cX1_readInTurn 0 = .ok (.aload_n 0, 1) := by decide +kernel
theorem dX1_readInTurn_1 : decode cX1_readInTurn 1 = .ok (.iconst 0, 1) := by decide +kernel
theorem dX1_readInTurn_2 : decode cX1_readInTurn 2 = .ok (.putfield 62, 3) := by decide +kernel
theorem dX1_readInTurn_5 : decode cX1_readInTurn 5 = .ok (.aload_n 0, 1) := by decide +kernel
theorem dX1_readInTurn_6 : decode cX1_readInTurn 6 = .ok (.aload_n 1, 1) := by decide +kernel
theorem dX1_readInTurn_7 : decode cX1_readInTurn 7 = .ok (.getfield 23, 3) := by decide +kernel
theorem dX1_readInTurn_10 : decode cX1_readInTurn 10 = .ok (.invokevirtual 66, 3) := by decide +kernel
theorem dX1_readInTurn_13 : decode cX1_readInTurn 13 = .ok (.iconst 0, 1) := by decide +kernel
theorem dX1_readInTurn_14 : decode cX1_readInTurn 14 = .ok (.istore_n 2, 1) := by decide +kernel
theorem dX1_readInTurn_15 : decode cX1_readInTurn 15 = .ok (.iload_n 2, 1) := by decide +kernel
theorem dX1_readInTurn_16 : decode cX1_readInTurn 16 = .ok (.bipush 7, 2) := by decide +kernel
theorem dX1_readInTurn_18 : decode cX1_readInTurn 18 = .ok (.if_icmp .ge 83, 3) := by decide +kernel
theorem dX1_readInTurn_21 : decode cX1_readInTurn 21 = .ok (.aload_n 1, 1) := by decide +kernel
theorem dX1_readInTurn_22 : decode cX1_readInTurn 22 = .ok (.getfield 33, 3) := by decide +kernel
theorem dX1_readInTurn_25 : decode cX1_readInTurn 25 = .ok (.iconst 1, 1) := by decide +kernel
theorem dX1_readInTurn_26 : decode cX1_readInTurn 26 = .ok (.iaload, 1) := by decide +kernel
theorem dX1_readInTurn_27 : decode cX1_readInTurn 27 = .ok (.ifCond .ne 7, 3) := by decide +kernel
theorem dX1_readInTurn_30 : decode cX1_readInTurn 30 = .ok (.iload_n 2, 1) := by decide +kernel
theorem dX1_readInTurn_31 : decode cX1_readInTurn 31 = .ok (.goto 7, 3) := by decide +kernel
theorem dX1_readInTurn_34 : decode cX1_readInTurn 34 = .ok (.bipush 6, 2) := by decide +kernel
theorem dX1_readInTurn_36 : decode cX1_readInTurn 36 = .ok (.iload_n 2, 1) := by decide +kernel
theorem dX1_readInTurn_37 : decode cX1_readInTurn 37 = .ok (.isub, 1) := by decide +kernel
theorem dX1_readInTurn_38 : decode cX1_readInTurn 38 = .ok (.istore_n 3, 1) := by decide +kernel
theorem dX1_readInTurn_39 : decode cX1_readInTurn 39 = .ok (.aload_n 0, 1) := by decide +kernel
theorem dX1_readInTurn_40 : decode cX1_readInTurn 40 = .ok (.getfield 9, 3) := by decide +kernel
theorem dX1_readInTurn_43 : decode cX1_readInTurn 43 = .ok (.iload_n 3, 1) := by decide +kernel
theorem dX1_readInTurn_44 : decode cX1_readInTurn 44 = .ok (.aload_n 1, 1) := by decide +kernel
theorem dX1_readInTurn_45 : decode cX1_readInTurn 45 = .ok (.getfield 23, 3) := by decide +kernel
theorem dX1_readInTurn_48 : decode cX1_readInTurn 48 = .ok (.getfield 69, 3) := by decide +kernel
theorem dX1_readInTurn_51 : decode cX1_readInTurn 51 = .ok (.iload_n 3, 1) := by decide +kernel
theorem dX1_readInTurn_52 : decode cX1_readInTurn 52 = .ok (.iaload, 1) := by decide +kernel
theorem dX1_readInTurn_53 : decode cX1_readInTurn 53 = .ok (.iastore, 1) := by decide +kernel
theorem dX1_readInTurn_54 : decode cX1_readInTurn 54 = .ok (.iconst 0, 1) := by decide +kernel
theorem dX1_readInTurn_55 : decode cX1_readInTurn 55 = .ok (.istore 4, 2) := by decide +kernel
theorem dX1_readInTurn_57 : decode cX1_readInTurn 57 = .ok (.iload 4, 2) := by decide +kernel
theorem dX1_readInTurn_59 : decode cX1_readInTurn 59 = .ok (.aload_n 1, 1) := by decide +kernel
theorem dX1_readInTurn_60 : decode cX1_readInTurn 60 = .ok (.getfield 33, 3) := by decide +kernel
theorem dX1_readInTurn_63 : decode cX1_readInTurn 63 = .ok (.iconst 0, 1) := by decide +kernel
theorem dX1_readInTurn_64 : decode cX1_readInTurn 64 = .ok (.iaload, 1) := by decide +kernel
theorem dX1_readInTurn_65 : decode cX1_readInTurn 65 = .ok (.if_icmp .ge 30, 3) := by decide +kernel
theorem dX1_readInTurn_68 : decode cX1_readInTurn 68 = .ok (.aload_n 1, 1) := by decide +kernel
theorem dX1_readInTurn_69 : decode cX1_readInTurn 69 = .ok (.invokevirtual 74, 3) := by decide +kernel
theorem dX1_readInTurn_72 : decode cX1_readInTurn 72 = .ok (.ifCond .eq 17, 3) := by decide +kernel
theorem dX1_readInTurn_75 : decode cX1_readInTurn 75 = .ok (.iload_n 2, 1) := by decide +kernel
theorem dX1_readInTurn_76 : decode cX1_readInTurn 76 = .ok (.bipush 6, 2) := by decide +kernel
theorem dX1_readInTurn_78 : decode cX1_readInTurn 78 = .ok (.if_icmp .ge 11, 3) := by decide +kernel
theorem dX1_readInTurn_81 : decode cX1_readInTurn 81 = .ok (.aload_n 0, 1) := by decide +kernel
theorem dX1_readInTurn_82 : decode cX1_readInTurn 82 = .ok (.aload_n 1, 1) := by decide +kernel
theorem dX1_readInTurn_83 : decode cX1_readInTurn 83 = .ok (.getfield 23, 3) := by decide +kernel
theorem dX1_readInTurn_86 : decode cX1_readInTurn 86 = .ok (.invokevirtual 66, 3) := by decide +kernel
theorem dX1_readInTurn_89 : decode cX1_readInTurn 89 = .ok (.iinc 4 1, 3) := by decide +kernel
theorem dX1_readInTurn_92 : decode cX1_readInTurn 92 = .ok (.goto (-35), 3) := by decide +kernel
theorem dX1_readInTurn_95 : decode cX1_readInTurn 95 = .ok (.iinc 2 1, 3) := by decide +kernel
theorem dX1_readInTurn_98 : decode cX1_readInTurn 98 = .ok (.goto (-83), 3) := by decide +kernel
theorem dX1_readInTurn_101 : decode cX1_readInTurn 101 = .ok (.return_, 1) := by decide +kernel
theorem dX1_keepShown_0 : decode cX1_keepShown 0 = .ok (.aload_n 0, 1) := by decide +kernel
theorem dX1_keepShown_1 : decode cX1_keepShown 1 = .ok (.getfield 62, 3) := by decide +kernel
theorem dX1_keepShown_4 : decode cX1_keepShown 4 = .ok (.bipush 13, 2) := by decide +kernel
theorem dX1_keepShown_6 : decode cX1_keepShown 6 = .ok (.if_icmp .ge 33, 3) := by decide +kernel
theorem dX1_keepShown_9 : decode cX1_keepShown 9 = .ok (.aload_n 1, 1) := by decide +kernel
theorem dX1_keepShown_10 : decode cX1_keepShown 10 = .ok (.getfield 69, 3) := by decide +kernel
theorem dX1_keepShown_13 : decode cX1_keepShown 13 = .ok (.iconst 0, 1) := by decide +kernel
theorem dX1_keepShown_14 : decode cX1_keepShown 14 = .ok (.aload_n 0, 1) := by decide +kernel
theorem dX1_keepShown_15 : decode cX1_keepShown 15 = .ok (.getfield 20, 3) := by decide +kernel
theorem dX1_keepShown_18 : decode cX1_keepShown 18 = .ok (.aload_n 0, 1) := by decide +kernel
theorem dX1_keepShown_19 : decode cX1_keepShown 19 = .ok (.getfield 62, 3) := by decide +kernel
theorem dX1_keepShown_22 : decode cX1_keepShown 22 = .ok (.aaload, 1) := by decide +kernel
theorem dX1_keepShown_23 : decode cX1_keepShown 23 = .ok (.iconst 0, 1) := by decide +kernel
theorem dX1_keepShown_24 : decode cX1_keepShown 24 = .ok (.bipush 7, 2) := by decide +kernel
theorem dX1_keepShown_26 : decode cX1_keepShown 26 = .ok (.invokestatic 44, 3) := by decide +kernel
theorem dX1_keepShown_29 : decode cX1_keepShown 29 = .ok (.aload_n 0, 1) := by decide +kernel
theorem dX1_keepShown_30 : decode cX1_keepShown 30 = .ok (.dup, 1) := by decide +kernel
theorem dX1_keepShown_31 : decode cX1_keepShown 31 = .ok (.getfield 62, 3) := by decide +kernel
theorem dX1_keepShown_34 : decode cX1_keepShown 34 = .ok (.iconst 1, 1) := by decide +kernel
theorem dX1_keepShown_35 : decode cX1_keepShown 35 = .ok (.iadd, 1) := by decide +kernel
theorem dX1_keepShown_36 : decode cX1_keepShown 36 = .ok (.putfield 62, 3) := by decide +kernel
theorem dX1_keepShown_39 : decode cX1_keepShown 39 = .ok (.return_, 1) := by decide +kernel
theorem dX1_isTorn_0 : decode cX1_isTorn 0 = .ok (.iconst 0, 1) := by decide +kernel
theorem dX1_isTorn_1 : decode cX1_isTorn 1 = .ok (.istore_n 1, 1) := by decide +kernel
theorem dX1_isTorn_2 : decode cX1_isTorn 2 = .ok (.iload_n 1, 1) := by decide +kernel
theorem dX1_isTorn_3 : decode cX1_isTorn 3 = .ok (.aload_n 0, 1) := by decide +kernel
theorem dX1_isTorn_4 : decode cX1_isTorn 4 = .ok (.getfield 62, 3) := by decide +kernel
theorem dX1_isTorn_7 : decode cX1_isTorn 7 = .ok (.if_icmp .ge 30, 3) := by decide +kernel
theorem dX1_isTorn_10 : decode cX1_isTorn 10 = .ok (.iload_n 1, 1) := by decide +kernel
theorem dX1_isTorn_11 : decode cX1_isTorn 11 = .ok (.bipush 13, 2) := by decide +kernel
theorem dX1_isTorn_13 : decode cX1_isTorn 13 = .ok (.if_icmp .ge 24, 3) := by decide +kernel
theorem dX1_isTorn_16 : decode cX1_isTorn 16 = .ok (.aload_n 0, 1) := by decide +kernel
theorem dX1_isTorn_17 : decode cX1_isTorn 17 = .ok (.aload_n 0, 1) := by decide +kernel
theorem dX1_isTorn_18 : decode cX1_isTorn 18 = .ok (.getfield 20, 3) := by decide +kernel
theorem dX1_isTorn_21 : decode cX1_isTorn 21 = .ok (.iload_n 1, 1) := by decide +kernel
theorem dX1_isTorn_22 : decode cX1_isTorn 22 = .ok (.aaload, 1) := by decide +kernel
theorem dX1_isTorn_23 : decode cX1_isTorn 23 = .ok (.invokevirtual 50, 3) := by decide +kernel
theorem dX1_isTorn_26 : decode cX1_isTorn 26 = .ok (.ifCond .eq 5, 3) := by decide +kernel
theorem dX1_isTorn_29 : decode cX1_isTorn 29 = .ok (.iconst 0, 1) := by decide +kernel
theorem dX1_isTorn_30 : decode cX1_isTorn 30 = .ok (.ireturn, 1) := by decide +kernel
theorem dX1_isTorn_31 : decode cX1_isTorn 31 = .ok (.iinc 1 1, 3) := by decide +kernel
theorem dX1_isTorn_34 : decode cX1_isTorn 34 = .ok (.goto (-32), 3) := by decide +kernel
theorem dX1_isTorn_37 : decode cX1_isTorn 37 = .ok (.iconst 1, 1) := by decide +kernel
theorem dX1_isTorn_38 : decode cX1_isTorn 38 = .ok (.ireturn, 1) := by decide +kernel
theorem dX1_isTold_0 : decode cX1_isTold 0 = .ok (.iconst 0, 1) := by decide +kernel
theorem dX1_isTold_1 : decode cX1_isTold 1 = .ok (.istore_n 2, 1) := by decide +kernel
theorem dX1_isTold_2 : decode cX1_isTold 2 = .ok (.iload_n 2, 1) := by decide +kernel
theorem dX1_isTold_3 : decode cX1_isTold 3 = .ok (.bipush 7, 2) := by decide +kernel
theorem dX1_isTold_5 : decode cX1_isTold 5 = .ok (.if_icmp .ge 29, 3) := by decide +kernel
theorem dX1_isTold_8 : decode cX1_isTold 8 = .ok (.iload_n 2, 1) := by decide +kernel
theorem dX1_isTold_9 : decode cX1_isTold 9 = .ok (.aload_n 1, 1) := by decide +kernel
theorem dX1_isTold_10 : decode cX1_isTold 10 = .ok (.arraylength, 1) := by decide +kernel
theorem dX1_isTold_11 : decode cX1_isTold 11 = .ok (.if_icmp .ge 23, 3) := by decide +kernel
theorem dX1_isTold_14 : decode cX1_isTold 14 = .ok (.aload_n 1, 1) := by decide +kernel
theorem dX1_isTold_15 : decode cX1_isTold 15 = .ok (.iload_n 2, 1) := by decide +kernel
theorem dX1_isTold_16 : decode cX1_isTold 16 = .ok (.iaload, 1) := by decide +kernel
theorem dX1_isTold_17 : decode cX1_isTold 17 = .ok (.aload_n 0, 1) := by decide +kernel
theorem dX1_isTold_18 : decode cX1_isTold 18 = .ok (.getfield 9, 3) := by decide +kernel
theorem dX1_isTold_21 : decode cX1_isTold 21 = .ok (.iload_n 2, 1) := by decide +kernel
theorem dX1_isTold_22 : decode cX1_isTold 22 = .ok (.iaload, 1) := by decide +kernel
theorem dX1_isTold_23 : decode cX1_isTold 23 = .ok (.if_icmp .eq 5, 3) := by decide +kernel
theorem dX1_isTold_26 : decode cX1_isTold 26 = .ok (.iconst 0, 1) := by decide +kernel
theorem dX1_isTold_27 : decode cX1_isTold 27 = .ok (.ireturn, 1) := by decide +kernel
theorem dX1_isTold_28 : decode cX1_isTold 28 = .ok (.iinc 2 1, 3) := by decide +kernel
theorem dX1_isTold_31 : decode cX1_isTold 31 = .ok (.goto (-29), 3) := by decide +kernel
theorem dX1_isTold_34 : decode cX1_isTold 34 = .ok (.iconst 1, 1) := by decide +kernel
theorem dX1_isTold_35 : decode cX1_isTold 35 = .ok (.ireturn, 1) := by decide +kernel
theorem dX2_init_0 : decode cX2_init 0 = .ok (.aload_n 0, 1) := by decide +kernel
theorem dX2_init_1 : decode cX2_init 1 = .ok (.invokespecial 3, 3) := by decide +kernel
theorem dX2_init_4 : decode cX2_init 4 = .ok (.aload_n 0, 1) := by decide +kernel
theorem dX2_init_5 : decode cX2_init 5 = .ok (.bipush 6, 2) := by decide +kernel
theorem dX2_init_7 : decode cX2_init 7 = .ok (.bipush 10, 2) := by decide +kernel
theorem dX2_init_9 : decode cX2_init 9 = .ok (.multianewarray 9 2, 4) := by decide +kernel
theorem dX2_init_13 : decode cX2_init 13 = .ok (.putfield 11, 3) := by decide +kernel
theorem dX2_init_16 : decode cX2_init 16 = .ok (.return_, 1) := by decide +kernel
theorem dX2_copyFrom_0 : decode cX2_copyFrom 0 = .ok (.iconst 0, 1) := by decide +kernel
theorem dX2_copyFrom_1 : decode cX2_copyFrom 1 = .ok (.istore_n 2, 1) := by decide +kernel
theorem dX2_copyFrom_2 : decode cX2_copyFrom 2 = .ok (.iload_n 2, 1) := by decide +kernel
theorem dX2_copyFrom_3 : decode cX2_copyFrom 3 = .ok (.bipush 6, 2) := by decide +kernel
theorem dX2_copyFrom_5 : decode cX2_copyFrom 5 = .ok (.if_icmp .ge 28, 3) := by decide +kernel
theorem dX2_copyFrom_8 : decode cX2_copyFrom 8 = .ok (.aload_n 1, 1) := by decide +kernel
theorem dX2_copyFrom_9 : decode cX2_copyFrom 9 = .ok (.getfield 11, 3) := by decide +kernel
theorem dX2_copyFrom_12 : decode cX2_copyFrom 12 = .ok (.iload_n 2, 1) := by decide +kernel
theorem dX2_copyFrom_13 : decode cX2_copyFrom 13 = .ok (.aaload, 1) := by decide +kernel
theorem dX2_copyFrom_14 : decode cX2_copyFrom 14 = .ok (.iconst 0, 1) := by decide +kernel
theorem dX2_copyFrom_15 : decode cX2_copyFrom 15 = .ok (.aload_n 0, 1) := by decide +kernel
theorem dX2_copyFrom_16 : decode cX2_copyFrom 16 = .ok (.getfield 11, 3) := by decide +kernel
theorem dX2_copyFrom_19 : decode cX2_copyFrom 19 = .ok (.iload_n 2, 1) := by decide +kernel
theorem dX2_copyFrom_20 : decode cX2_copyFrom 20 = .ok (.aaload, 1) := by decide +kernel
theorem dX2_copyFrom_21 : decode cX2_copyFrom 21 = .ok (.iconst 0, 1) := by decide +kernel
theorem dX2_copyFrom_22 : decode cX2_copyFrom 22 = .ok (.bipush 10, 2) := by decide +kernel
theorem dX2_copyFrom_24 : decode cX2_copyFrom 24 = .ok (.invokestatic 16, 3) := by decide +kernel
theorem dX2_copyFrom_27 : decode cX2_copyFrom 27 = .ok (.iinc 2 1, 3) := by decide +kernel
theorem dX2_copyFrom_30 : decode cX2_copyFrom 30 = .ok (.goto (-28), 3) := by decide +kernel
theorem dX2_copyFrom_33 : decode cX2_copyFrom 33 = .ok (.aload_n 0, 1) := by decide +kernel
theorem dX2_copyFrom_34 : decode cX2_copyFrom 34 = .ok (.aload_n 1, 1) := by decide +kernel
theorem dX2_copyFrom_35 : decode cX2_copyFrom 35 = .ok (.getfield 22, 3) := by decide +kernel
theorem dX2_copyFrom_38 : decode cX2_copyFrom 38 = .ok (.putfield 22, 3) := by decide +kernel
theorem dX2_copyFrom_41 : decode cX2_copyFrom 41 = .ok (.aload_n 0, 1) := by decide +kernel
theorem dX2_copyFrom_42 : decode cX2_copyFrom 42 = .ok (.aload_n 1, 1) := by decide +kernel
theorem dX2_copyFrom_43 : decode cX2_copyFrom 43 = .ok (.getfield 26, 3) := by decide +kernel
theorem dX2_copyFrom_46 : decode cX2_copyFrom 46 = .ok (.putfield 26, 3) := by decide +kernel
theorem dX2_copyFrom_49 : decode cX2_copyFrom 49 = .ok (.return_, 1) := by decide +kernel
theorem dX2_add_0 : decode cX2_add 0 = .ok (.aload_n 0, 1) := by decide +kernel
theorem dX2_add_1 : decode cX2_add 1 = .ok (.aload_n 0, 1) := by decide +kernel
theorem dX2_add_2 : decode cX2_add 2 = .ok (.getfield 22, 3) := by decide +kernel
theorem dX2_add_5 : decode cX2_add 5 = .ok (.iconst 1, 1) := by decide +kernel
theorem dX2_add_6 : decode cX2_add 6 = .ok (.iadd, 1) := by decide +kernel
theorem dX2_add_7 : decode cX2_add 7 = .ok (.bipush 6, 2) := by decide +kernel
theorem dX2_add_9 : decode cX2_add 9 = .ok (.if_icmp .ge 12, 3) := by decide +kernel
theorem dX2_add_12 : decode cX2_add 12 = .ok (.aload_n 0, 1) := by decide +kernel
theorem dX2_add_13 : decode cX2_add 13 = .ok (.getfield 22, 3) := by decide +kernel
theorem dX2_add_16 : decode cX2_add 16 = .ok (.iconst 1, 1) := by decide +kernel
theorem dX2_add_17 : decode cX2_add 17 = .ok (.iadd, 1) := by decide +kernel
theorem dX2_add_18 : decode cX2_add 18 = .ok (.goto 4, 3) := by decide +kernel
theorem dX2_add_21 : decode cX2_add 21 = .ok (.iconst 0, 1) := by decide +kernel
theorem dX2_add_22 : decode cX2_add 22 = .ok (.putfield 22, 3) := by decide +kernel
theorem dX2_add_25 : decode cX2_add 25 = .ok (.aload_n 1, 1) := by decide +kernel
theorem dX2_add_26 : decode cX2_add 26 = .ok (.iconst 0, 1) := by decide +kernel
theorem dX2_add_27 : decode cX2_add 27 = .ok (.aload_n 0, 1) := by decide +kernel
theorem dX2_add_28 : decode cX2_add 28 = .ok (.getfield 11, 3) := by decide +kernel
theorem dX2_add_31 : decode cX2_add 31 = .ok (.aload_n 0, 1) := by decide +kernel
theorem dX2_add_32 : decode cX2_add 32 = .ok (.getfield 22, 3) := by decide +kernel
theorem dX2_add_35 : decode cX2_add 35 = .ok (.aaload, 1) := by decide +kernel
theorem dX2_add_36 : decode cX2_add 36 = .ok (.iconst 0, 1) := by decide +kernel
theorem dX2_add_37 : decode cX2_add 37 = .ok (.bipush 10, 2) := by decide +kernel
theorem dX2_add_39 : decode cX2_add 39 = .ok (.invokestatic 16, 3) := by decide +kernel
theorem dX2_add_42 : decode cX2_add 42 = .ok (.aload_n 0, 1) := by decide +kernel
theorem dX2_add_43 : decode cX2_add 43 = .ok (.getfield 26, 3) := by decide +kernel
theorem dX2_add_46 : decode cX2_add 46 = .ok (.bipush 6, 2) := by decide +kernel
theorem dX2_add_48 : decode cX2_add 48 = .ok (.if_icmp .ge 13, 3) := by decide +kernel
theorem dX2_add_51 : decode cX2_add 51 = .ok (.aload_n 0, 1) := by decide +kernel
theorem dX2_add_52 : decode cX2_add 52 = .ok (.dup, 1) := by decide +kernel
theorem dX2_add_53 : decode cX2_add 53 = .ok (.getfield 26, 3) := by decide +kernel
theorem dX2_add_56 : decode cX2_add 56 = .ok (.iconst 1, 1) := by decide +kernel
theorem dX2_add_57 : decode cX2_add 57 = .ok (.iadd, 1) := by decide +kernel
theorem dX2_add_58 : decode cX2_add 58 = .ok (.putfield 26, 3) := by decide +kernel
theorem dX2_add_61 : decode cX2_add 61 = .ok (.return_, 1) := by decide +kernel
theorem dX2_told_0 : decode cX2_told 0 = .ok (.aload_n 0, 1) := by decide +kernel
theorem dX2_told_1 : decode cX2_told 1 = .ok (.getfield 22, 3) := by decide +kernel
theorem dX2_told_4 : decode cX2_told 4 = .ok (.iload_n 1, 1) := by decide +kernel
theorem dX2_told_5 : decode cX2_told 5 = .ok (.isub, 1) := by decide +kernel
theorem dX2_told_6 : decode cX2_told 6 = .ok (.istore_n 3, 1) := by decide +kernel
theorem dX2_told_7 : decode cX2_told 7 = .ok (.aload_n 0, 1) := by decide +kernel
theorem dX2_told_8 : decode cX2_told 8 = .ok (.getfield 11, 3) := by decide +kernel
theorem dX2_told_11 : decode cX2_told 11 = .ok (.iload_n 3, 1) := by decide +kernel
theorem dX2_told_12 : decode cX2_told 12 = .ok (.ifCond .ge 10, 3) := by decide +kernel
theorem dX2_told_15 : decode cX2_told 15 = .ok (.iload_n 3, 1) := by decide +kernel
theorem dX2_told_16 : decode cX2_told 16 = .ok (.bipush 6, 2) := by decide +kernel
theorem dX2_told_18 : decode cX2_told 18 = .ok (.iadd, 1) := by decide +kernel
theorem dX2_told_19 : decode cX2_told 19 = .ok (.goto 4, 3) := by decide +kernel
theorem dX2_told_22 : decode cX2_told 22 = .ok (.iload_n 3, 1) := by decide +kernel
theorem dX2_told_23 : decode cX2_told 23 = .ok (.aaload, 1) := by decide +kernel
theorem dX2_told_24 : decode cX2_told 24 = .ok (.iload_n 2, 1) := by decide +kernel
theorem dX2_told_25 : decode cX2_told 25 = .ok (.iaload, 1) := by decide +kernel
theorem dX2_told_26 : decode cX2_told 26 = .ok (.ireturn, 1) := by decide +kernel
theorem dX3_init_0 : decode cX3_init 0 = .ok (.aload_n 0, 1) := by decide +kernel
theorem dX3_init_1 : decode cX3_init 1 = .ok (.invokespecial 3, 3) := by decide +kernel
theorem dX3_init_4 : decode cX3_init 4 = .ok (.aload_n 0, 1) := by decide +kernel
theorem dX3_init_5 : decode cX3_init 5 = .ok (.new 9, 3) := by decide +kernel
theorem dX3_init_8 : decode cX3_init 8 = .ok (.dup, 1) := by decide +kernel
theorem dX3_init_9 : decode cX3_init 9 = .ok (.invokespecial 11, 3) := by decide +kernel
theorem dX3_init_12 : decode cX3_init 12 = .ok (.putfield 12, 3) := by decide +kernel
theorem dX3_init_15 : decode cX3_init 15 = .ok (.aload_n 0, 1) := by decide +kernel
theorem dX3_init_16 : decode cX3_init 16 = .ok (.new 18, 3) := by decide +kernel
theorem dX3_init_19 : decode cX3_init 19 = .ok (.dup, 1) := by decide +kernel
theorem dX3_init_20 : decode cX3_init 20 = .ok (.invokespecial 20, 3) := by decide +kernel
theorem dX3_init_23 : decode cX3_init 23 = .ok (.putfield 21, 3) := by decide +kernel
theorem dX3_init_26 : decode cX3_init 26 = .ok (.aload_n 0, 1) := by decide +kernel
theorem dX3_init_27 : decode cX3_init 27 = .ok (.new 25, 3) := by decide +kernel
theorem dX3_init_30 : decode cX3_init 30 = .ok (.dup, 1) := by decide +kernel
theorem dX3_init_31 : decode cX3_init 31 = .ok (.invokespecial 27, 3) := by decide +kernel
theorem dX3_init_34 : decode cX3_init 34 = .ok (.putfield 28, 3) := by decide +kernel
theorem dX3_init_37 : decode cX3_init 37 = .ok (.aload_n 0, 1) := by decide +kernel
theorem dX3_init_38 : decode cX3_init 38 = .ok (.iconst 3, 1) := by decide +kernel
theorem dX3_init_39 : decode cX3_init 39 = .ok (.newarray .int, 2) := by decide +kernel
theorem dX3_init_41 : decode cX3_init 41 = .ok (.putfield 32, 3) := by decide +kernel
theorem dX3_init_44 : decode cX3_init 44 = .ok (.aload_n 0, 1) := by decide +kernel
theorem dX3_init_45 : decode cX3_init 45 = .ok (.getfield 32, 3) := by decide +kernel
theorem dX3_init_48 : decode cX3_init 48 = .ok (.iconst 0, 1) := by decide +kernel
theorem dX3_init_49 : decode cX3_init 49 = .ok (.iconst 2, 1) := by decide +kernel
theorem dX3_init_50 : decode cX3_init 50 = .ok (.iastore, 1) := by decide +kernel
theorem dX3_init_51 : decode cX3_init 51 = .ok (.aload_n 0, 1) := by decide +kernel
theorem dX3_init_52 : decode cX3_init 52 = .ok (.getfield 32, 3) := by decide +kernel
theorem dX3_init_55 : decode cX3_init 55 = .ok (.iconst 1, 1) := by decide +kernel
theorem dX3_init_56 : decode cX3_init 56 = .ok (.iconst 0, 1) := by decide +kernel
theorem dX3_init_57 : decode cX3_init 57 = .ok (.iastore, 1) := by decide +kernel
theorem dX3_init_58 : decode cX3_init 58 = .ok (.aload_n 0, 1) := by decide +kernel
theorem dX3_init_59 : decode cX3_init 59 = .ok (.getfield 32, 3) := by decide +kernel
theorem dX3_init_62 : decode cX3_init 62 = .ok (.iconst 2, 1) := by decide +kernel
theorem dX3_init_63 : decode cX3_init 63 = .ok (.bipush 16, 2) := by decide +kernel
theorem dX3_init_65 : decode cX3_init 65 = .ok (.iastore, 1) := by decide +kernel
theorem dX3_init_66 : decode cX3_init 66 = .ok (.return_, 1) := by decide +kernel
theorem dX3_copyFrom_0 : decode cX3_copyFrom 0 = .ok (.aload_n 0, 1) := by decide +kernel
theorem dX3_copyFrom_1 : decode cX3_copyFrom 1 = .ok (.getfield 12, 3) := by decide +kernel
theorem dX3_copyFrom_4 : decode cX3_copyFrom 4 = .ok (.aload_n 1, 1) := by decide +kernel
theorem dX3_copyFrom_5 : decode cX3_copyFrom 5 = .ok (.getfield 12, 3) := by decide +kernel
theorem dX3_copyFrom_8 : decode cX3_copyFrom 8 = .ok (.invokevirtual 36, 3) := by decide +kernel
theorem dX3_copyFrom_11 : decode cX3_copyFrom 11 = .ok (.aload_n 0, 1) := by decide +kernel
theorem dX3_copyFrom_12 : decode cX3_copyFrom 12 = .ok (.getfield 21, 3) := by decide +kernel
theorem dX3_copyFrom_15 : decode cX3_copyFrom 15 = .ok (.aload_n 1, 1) := by decide +kernel
theorem dX3_copyFrom_16 : decode cX3_copyFrom 16 = .ok (.getfield 21, 3) := by decide +kernel
theorem dX3_copyFrom_19 : decode cX3_copyFrom 19 = .ok (.invokevirtual 40, 3) := by decide +kernel
theorem dX3_copyFrom_22 : decode cX3_copyFrom 22 = .ok (.aload_n 0, 1) := by decide +kernel
theorem dX3_copyFrom_23 : decode cX3_copyFrom 23 = .ok (.getfield 28, 3) := by decide +kernel
theorem dX3_copyFrom_26 : decode cX3_copyFrom 26 = .ok (.aload_n 1, 1) := by decide +kernel
theorem dX3_copyFrom_27 : decode cX3_copyFrom 27 = .ok (.getfield 28, 3) := by decide +kernel
theorem dX3_copyFrom_30 : decode cX3_copyFrom 30 = .ok (.invokevirtual 43, 3) := by decide +kernel
theorem dX3_copyFrom_33 : decode cX3_copyFrom 33 = .ok (.aload_n 1, 1) := by decide +kernel
theorem dX3_copyFrom_34 : decode cX3_copyFrom 34 = .ok (.getfield 32, 3) := by decide +kernel
theorem dX3_copyFrom_37 : decode cX3_copyFrom 37 = .ok (.iconst 0, 1) := by decide +kernel
theorem dX3_copyFrom_38 : decode cX3_copyFrom 38 = .ok (.aload_n 0, 1) := by decide +kernel
theorem dX3_copyFrom_39 : decode cX3_copyFrom 39 = .ok (.getfield 32, 3) := by decide +kernel
theorem dX3_copyFrom_42 : decode cX3_copyFrom 42 = .ok (.iconst 0, 1) := by decide +kernel
theorem dX3_copyFrom_43 : decode cX3_copyFrom 43 = .ok (.iconst 3, 1) := by decide +kernel
theorem dX3_copyFrom_44 : decode cX3_copyFrom 44 = .ok (.invokestatic 46, 3) := by decide +kernel
theorem dX3_copyFrom_47 : decode cX3_copyFrom 47 = .ok (.aload_n 0, 1) := by decide +kernel
theorem dX3_copyFrom_48 : decode cX3_copyFrom 48 = .ok (.aload_n 1, 1) := by decide +kernel
theorem dX3_copyFrom_49 : decode cX3_copyFrom 49 = .ok (.getfield 52, 3) := by decide +kernel
theorem dX3_copyFrom_52 : decode cX3_copyFrom 52 = .ok (.putfield 52, 3) := by decide +kernel
theorem dX3_copyFrom_55 : decode cX3_copyFrom 55 = .ok (.aload_n 0, 1) := by decide +kernel
theorem dX3_copyFrom_56 : decode cX3_copyFrom 56 = .ok (.aload_n 1, 1) := by decide +kernel
theorem dX3_copyFrom_57 : decode cX3_copyFrom 57 = .ok (.getfield 56, 3) := by decide +kernel
theorem dX3_copyFrom_60 : decode cX3_copyFrom 60 = .ok (.putfield 56, 3) := by decide +kernel
theorem dX3_copyFrom_63 : decode cX3_copyFrom 63 = .ok (.aload_n 0, 1) := by decide +kernel
theorem dX3_copyFrom_64 : decode cX3_copyFrom 64 = .ok (.aload_n 1, 1) := by decide +kernel
theorem dX3_copyFrom_65 : decode cX3_copyFrom 65 = .ok (.getfield 59, 3) := by decide +kernel
theorem dX3_copyFrom_68 : decode cX3_copyFrom 68 = .ok (.putfield 59, 3) := by decide +kernel
theorem dX3_copyFrom_71 : decode cX3_copyFrom 71 = .ok (.aload_n 0, 1) := by decide +kernel
theorem dX3_copyFrom_72 : decode cX3_copyFrom 72 = .ok (.aload_n 1, 1) := by decide +kernel
theorem dX3_copyFrom_73 : decode cX3_copyFrom 73 = .ok (.getfield 62, 3) := by decide +kernel
theorem dX3_copyFrom_76 : decode cX3_copyFrom 76 = .ok (.putfield 62, 3) := by decide +kernel
theorem dX3_copyFrom_79 : decode cX3_copyFrom 79 = .ok (.aload_n 0, 1) := by decide +kernel
theorem dX3_copyFrom_80 : decode cX3_copyFrom 80 = .ok (.aload_n 1, 1) := by decide +kernel
theorem dX3_copyFrom_81 : decode cX3_copyFrom 81 = .ok (.getfield 65, 3) := by decide +kernel
theorem dX3_copyFrom_84 : decode cX3_copyFrom 84 = .ok (.putfield 65, 3) := by decide +kernel
theorem dX3_copyFrom_87 : decode cX3_copyFrom 87 = .ok (.aload_n 0, 1) := by decide +kernel
theorem dX3_copyFrom_88 : decode cX3_copyFrom 88 = .ok (.aload_n 1, 1) := by decide +kernel
theorem dX3_copyFrom_89 : decode cX3_copyFrom 89 = .ok (.getfield 68, 3) := by decide +kernel
theorem dX3_copyFrom_92 : decode cX3_copyFrom 92 = .ok (.putfield 68, 3) := by decide +kernel
theorem dX3_copyFrom_95 : decode cX3_copyFrom 95 = .ok (.aload_n 0, 1) := by decide +kernel
theorem dX3_copyFrom_96 : decode cX3_copyFrom 96 = .ok (.aload_n 1, 1) := by decide +kernel
theorem dX3_copyFrom_97 : decode cX3_copyFrom 97 = .ok (.getfield 71, 3) := by decide +kernel
theorem dX3_copyFrom_100 : decode cX3_copyFrom 100 = .ok (.putfield 71, 3) := by decide +kernel
theorem dX3_copyFrom_103 : decode cX3_copyFrom 103 = .ok (.return_, 1) := by decide +kernel
theorem dX3_passPhase_0 : decode cX3_passPhase 0 = .ok (.aload_n 0, 1) := by decide +kernel
theorem dX3_passPhase_1 : decode cX3_passPhase 1 = .ok (.dup, 1) := by decide +kernel
theorem dX3_passPhase_2 : decode cX3_passPhase 2 = .ok (.getfield 59, 3) := by decide +kernel
theorem dX3_passPhase_5 : decode cX3_passPhase 5 = .ok (.iconst 1, 1) := by decide +kernel
theorem dX3_passPhase_6 : decode cX3_passPhase 6 = .ok (.iadd, 1) := by decide +kernel
theorem dX3_passPhase_7 : decode cX3_passPhase 7 = .ok (.putfield 59, 3) := by decide +kernel
theorem dX3_passPhase_10 : decode cX3_passPhase 10 = .ok (.aload_n 0, 1) := by decide +kernel
theorem dX3_passPhase_11 : decode cX3_passPhase 11 = .ok (.dup, 1) := by decide +kernel
theorem dX3_passPhase_12 : decode cX3_passPhase 12 = .ok (.getfield 52, 3) := by decide +kernel
theorem dX3_passPhase_15 : decode cX3_passPhase 15 = .ok (.iconst 1, 1) := by decide +kernel
theorem dX3_passPhase_16 : decode cX3_passPhase 16 = .ok (.iadd, 1) := by decide +kernel
theorem dX3_passPhase_17 : decode cX3_passPhase 17 = .ok (.putfield 52, 3) := by decide +kernel
theorem dX3_passPhase_20 : decode cX3_passPhase 20 = .ok (.aload_n 0, 1) := by decide +kernel
theorem dX3_passPhase_21 : decode cX3_passPhase 21 = .ok (.getfield 52, 3) := by decide +kernel
theorem dX3_passPhase_24 : decode cX3_passPhase 24 = .ok (.aload_n 0, 1) := by decide +kernel
theorem dX3_passPhase_25 : decode cX3_passPhase 25 = .ok (.getfield 32, 3) := by decide +kernel
theorem dX3_passPhase_28 : decode cX3_passPhase 28 = .ok (.iconst 2, 1) := by decide +kernel
theorem dX3_passPhase_29 : decode cX3_passPhase 29 = .ok (.iaload, 1) := by decide +kernel
theorem dX3_passPhase_30 : decode cX3_passPhase 30 = .ok (.if_icmp .ge 5, 3) := by decide +kernel
theorem dX3_passPhase_33 : decode cX3_passPhase 33 = .ok (.iconst 0, 1) := by decide +kernel
theorem dX3_passPhase_34 : decode cX3_passPhase 34 = .ok (.ireturn, 1) := by decide +kernel
theorem dX3_passPhase_35 : decode cX3_passPhase 35 = .ok (.aload_n 0, 1) := by decide +kernel
theorem dX3_passPhase_36 : decode cX3_passPhase 36 = .ok (.iconst 0, 1) := by decide +kernel
theorem dX3_passPhase_37 : decode cX3_passPhase 37 = .ok (.putfield 52, 3) := by decide +kernel
theorem dX3_passPhase_40 : decode cX3_passPhase 40 = .ok (.aload_n 0, 1) := by decide +kernel
theorem dX3_passPhase_41 : decode cX3_passPhase 41 = .ok (.dup, 1) := by decide +kernel
theorem dX3_passPhase_42 : decode cX3_passPhase 42 = .ok (.getfield 56, 3) := by decide +kernel
theorem dX3_passPhase_45 : decode cX3_passPhase 45 = .ok (.iconst 1, 1) := by decide +kernel
theorem dX3_passPhase_46 : decode cX3_passPhase 46 = .ok (.iadd, 1) := by decide +kernel
theorem dX3_passPhase_47 : decode cX3_passPhase 47 = .ok (.putfield 56, 3) := by decide +kernel
theorem dX3_passPhase_50 : decode cX3_passPhase 50 = .ok (.aload_n 0, 1) := by decide +kernel
theorem dX3_passPhase_51 : decode cX3_passPhase 51 = .ok (.getfield 12, 3) := by decide +kernel
theorem dX3_passPhase_54 : decode cX3_passPhase 54 = .ok (.invokevirtual 74, 3) := by decide +kernel
theorem dX3_passPhase_57 : decode cX3_passPhase 57 = .ok (.aload_n 0, 1) := by decide +kernel
theorem dX3_passPhase_58 : decode cX3_passPhase 58 = .ok (.getfield 21, 3) := by decide +kernel
theorem dX3_passPhase_61 : decode cX3_passPhase 61 = .ok (.aload_n 0, 1) := by decide +kernel
theorem dX3_passPhase_62 : decode cX3_passPhase 62 = .ok (.getfield 12, 3) := by decide +kernel
theorem dX3_passPhase_65 : decode cX3_passPhase 65 = .ok (.invokevirtual 77, 3) := by decide +kernel
theorem dX3_passPhase_68 : decode cX3_passPhase 68 = .ok (.iconst 1, 1) := by decide +kernel
theorem dX3_passPhase_69 : decode cX3_passPhase 69 = .ok (.ireturn, 1) := by decide +kernel
theorem dX3_passPhases_0 : decode cX3_passPhases 0 = .ok (.iconst 0, 1) := by decide +kernel
theorem dX3_passPhases_1 : decode cX3_passPhases 1 = .ok (.istore_n 2, 1) := by decide +kernel
theorem dX3_passPhases_2 : decode cX3_passPhases 2 = .ok (.iconst 0, 1) := by decide +kernel
theorem dX3_passPhases_3 : decode cX3_passPhases 3 = .ok (.istore_n 3, 1) := by decide +kernel
theorem dX3_passPhases_4 : decode cX3_passPhases 4 = .ok (.iload_n 3, 1) := by decide +kernel
theorem dX3_passPhases_5 : decode cX3_passPhases 5 = .ok (.iload_n 1, 1) := by decide +kernel
theorem dX3_passPhases_6 : decode cX3_passPhases 6 = .ok (.if_icmp .ge 19, 3) := by decide +kernel
theorem dX3_passPhases_9 : decode cX3_passPhases 9 = .ok (.aload_n 0, 1) := by decide +kernel
theorem dX3_passPhases_10 : decode cX3_passPhases 10 = .ok (.invokevirtual 80, 3) := by decide +kernel
theorem dX3_passPhases_13 : decode cX3_passPhases 13 = .ok (.ifCond .eq 6, 3) := by decide +kernel
theorem dX3_passPhases_16 : decode cX3_passPhases 16 = .ok (.iinc 2 1, 3) := by decide +kernel
theorem dX3_passPhases_19 : decode cX3_passPhases 19 = .ok (.iinc 3 1, 3) := by decide +kernel
theorem dX3_passPhases_22 : decode cX3_passPhases 22 = .ok (.goto (-18), 3) := by decide +kernel
theorem dX3_passPhases_25 : decode cX3_passPhases 25 = .ok (.iload_n 2, 1) := by decide +kernel
theorem dX3_passPhases_26 : decode cX3_passPhases 26 = .ok (.ireturn, 1) := by decide +kernel
theorem dX3_writeRegister_0 : decode cX3_writeRegister 0 = .ok (.aload_n 0, 1) := by decide +kernel
theorem dX3_writeRegister_1 : decode cX3_writeRegister 1 = .ok (.dup, 1) := by decide +kernel
theorem dX3_writeRegister_2 : decode cX3_writeRegister 2 = .ok (.getfield 65, 3) := by decide +kernel
theorem dX3_writeRegister_5 : decode cX3_writeRegister 5 = .ok (.iconst 1, 1) := by decide +kernel
theorem dX3_writeRegister_6 : decode cX3_writeRegister 6 = .ok (.iadd, 1) := by decide +kernel
theorem dX3_writeRegister_7 : decode cX3_writeRegister 7 = .ok (.putfield 65, 3) := by decide +kernel
theorem dX3_writeRegister_10 : decode cX3_writeRegister 10 = .ok (.aload_n 0, 1) := by decide +kernel
theorem dX3_writeRegister_11 : decode cX3_writeRegister 11 = .ok (.getfield 12, 3) := by decide +kernel
theorem dX3_writeRegister_14 : decode cX3_writeRegister 14 = .ok (.getfield 84, 3) := by decide +kernel
theorem dX3_writeRegister_17 : decode cX3_writeRegister 17 = .ok (.iload_n 1, 1) := by decide +kernel
theorem dX3_writeRegister_18 : decode cX3_writeRegister 18 = .ok (.aload_n 0, 1) := by decide +kernel
theorem dX3_writeRegister_19 : decode cX3_writeRegister 19 = .ok (.getfield 12, 3) := by decide +kernel
theorem dX3_writeRegister_22 : decode cX3_writeRegister 22 = .ok (.iload_n 1, 1) := by decide +kernel
theorem dX3_writeRegister_23 : decode cX3_writeRegister 23 = .ok (.iload_n 2, 1) := by decide +kernel
theorem dX3_writeRegister_24 : decode cX3_writeRegister 24 = .ok (.invokevirtual 87, 3) := by decide +kernel
theorem dX3_writeRegister_27 : decode cX3_writeRegister 27 = .ok (.iastore, 1) := by decide +kernel
theorem dX3_writeRegister_28 : decode cX3_writeRegister 28 = .ok (.aload_n 0, 1) := by decide +kernel
theorem dX3_writeRegister_29 : decode cX3_writeRegister 29 = .ok (.getfield 12, 3) := by decide +kernel
theorem dX3_writeRegister_32 : decode cX3_writeRegister 32 = .ok (.getfield 84, 3) := by decide +kernel
theorem dX3_writeRegister_35 : decode cX3_writeRegister 35 = .ok (.iload_n 1, 1) := by decide +kernel
theorem dX3_writeRegister_36 : decode cX3_writeRegister 36 = .ok (.iaload, 1) := by decide +kernel
theorem dX3_writeRegister_37 : decode cX3_writeRegister 37 = .ok (.ireturn, 1) := by decide +kernel
theorem dX3_readRegister_0 : decode cX3_readRegister 0 = .ok (.aload_n 0, 1) := by decide +kernel
theorem dX3_readRegister_1 : decode cX3_readRegister 1 = .ok (.dup, 1) := by decide +kernel
theorem dX3_readRegister_2 : decode cX3_readRegister 2 = .ok (.getfield 62, 3) := by decide +kernel
theorem dX3_readRegister_5 : decode cX3_readRegister 5 = .ok (.iconst 1, 1) := by decide +kernel
theorem dX3_readRegister_6 : decode cX3_readRegister 6 = .ok (.iadd, 1) := by decide +kernel
theorem dX3_readRegister_7 : decode cX3_readRegister 7 = .ok (.putfield 62, 3) := by decide +kernel
theorem dX3_readRegister_10 : decode cX3_readRegister 10 = .ok (.aload_n 0, 1) := by decide +kernel
theorem dX3_readRegister_11 : decode cX3_readRegister 11 = .ok (.getfield 12, 3) := by decide +kernel
theorem dX3_readRegister_14 : decode cX3_readRegister 14 = .ok (.getfield 84, 3) := by decide +kernel
theorem dX3_readRegister_17 : decode cX3_readRegister 17 = .ok (.iload_n 1, 1) := by decide +kernel
theorem dX3_readRegister_18 : decode cX3_readRegister 18 = .ok (.iaload, 1) := by decide +kernel
theorem dX3_readRegister_19 : decode cX3_readRegister 19 = .ok (.istore_n 2, 1) := by decide +kernel
theorem dX3_readRegister_20 : decode cX3_readRegister 20 = .ok (.aload_n 0, 1) := by decide +kernel
theorem dX3_readRegister_21 : decode cX3_readRegister 21 = .ok (.aload_n 0, 1) := by decide +kernel
theorem dX3_readRegister_22 : decode cX3_readRegister 22 = .ok (.getfield 32, 3) := by decide +kernel
theorem dX3_readRegister_25 : decode cX3_readRegister 25 = .ok (.iconst 0, 1) := by decide +kernel
theorem dX3_readRegister_26 : decode cX3_readRegister 26 = .ok (.iaload, 1) := by decide +kernel
theorem dX3_readRegister_27 : decode cX3_readRegister 27 = .ok (.invokevirtual 91, 3) := by decide +kernel
theorem dX3_readRegister_30 : decode cX3_readRegister 30 = .ok (.pop, 1) := by decide +kernel
theorem dX3_readRegister_31 : decode cX3_readRegister 31 = .ok (.iload_n 2, 1) := by decide +kernel
theorem dX3_readRegister_32 : decode cX3_readRegister 32 = .ok (.ireturn, 1) := by decide +kernel
theorem dX3_changeSetting_0 : decode cX3_changeSetting 0 = .ok (.aload_n 0, 1) := by decide +kernel
theorem dX3_changeSetting_1 : decode cX3_changeSetting 1 = .ok (.getfield 32, 3) := by decide +kernel
theorem dX3_changeSetting_4 : decode cX3_changeSetting 4 = .ok (.iload_n 1, 1) := by decide +kernel
theorem dX3_changeSetting_5 : decode cX3_changeSetting 5 = .ok (.iaload, 1) := by decide +kernel
theorem dX3_changeSetting_6 : decode cX3_changeSetting 6 = .ok (.istore_n 3, 1) := by decide +kernel
theorem dX3_changeSetting_7 : decode cX3_changeSetting 7 = .ok (.aload_n 0, 1) := by decide +kernel
theorem dX3_changeSetting_8 : decode cX3_changeSetting 8 = .ok (.getfield 32, 3) := by decide +kernel
theorem dX3_changeSetting_11 : decode cX3_changeSetting 11 = .ok (.iload_n 1, 1) := by decide +kernel
theorem dX3_changeSetting_12 : decode cX3_changeSetting 12 = .ok (.iload_n 2, 1) := by decide +kernel
theorem dX3_changeSetting_13 : decode cX3_changeSetting 13 = .ok (.iastore, 1) := by decide +kernel
theorem dX3_changeSetting_14 : decode cX3_changeSetting 14 = .ok (.aload_n 0, 1) := by decide +kernel
theorem dX3_changeSetting_15 : decode cX3_changeSetting 15 = .ok (.getfield 52, 3) := by decide +kernel
theorem dX3_changeSetting_18 : decode cX3_changeSetting 18 = .ok (.aload_n 0, 1) := by decide +kernel
theorem dX3_changeSetting_19 : decode cX3_changeSetting 19 = .ok (.getfield 32, 3) := by decide +kernel
theorem dX3_changeSetting_22 : decode cX3_changeSetting 22 = .ok (.iconst 2, 1) := by decide +kernel
theorem dX3_changeSetting_23 : decode cX3_changeSetting 23 = .ok (.iaload, 1) := by decide +kernel
theorem dX3_changeSetting_24 : decode cX3_changeSetting 24 = .ok (.if_icmp .lt 15, 3) := by decide +kernel
theorem dX3_changeSetting_27 : decode cX3_changeSetting 27 = .ok (.aload_n 0, 1) := by decide +kernel
theorem dX3_changeSetting_28 : decode cX3_changeSetting 28 = .ok (.aload_n 0, 1) := by decide +kernel
theorem dX3_changeSetting_29 : decode cX3_changeSetting 29 = .ok (.getfield 32, 3) := by decide +kernel
theorem dX3_changeSetting_32 : decode cX3_changeSetting 32 = .ok (.iconst 2, 1) := by decide +kernel
theorem dX3_changeSetting_33 : decode cX3_changeSetting 33 = .ok (.iaload, 1) := by decide +kernel
theorem dX3_changeSetting_34 : decode cX3_changeSetting 34 = .ok (.iconst 1, 1) := by decide +kernel
theorem dX3_changeSetting_35 : decode cX3_changeSetting 35 = .ok (.isub, 1) := by decide +kernel
theorem dX3_changeSetting_36 : decode cX3_changeSetting 36 = .ok (.putfield 52, 3) := by decide +kernel
theorem dX3_changeSetting_39 : decode cX3_changeSetting 39 = .ok (.iload_n 3, 1) := by decide +kernel
theorem dX3_changeSetting_40 : decode cX3_changeSetting 40 = .ok (.ireturn, 1) := by decide +kernel
theorem dX3_logBurst_0 : decode cX3_logBurst 0 = .ok (.aload_n 0, 1) := by decide +kernel
theorem dX3_logBurst_1 : decode cX3_logBurst 1 = .ok (.dup, 1) := by decide +kernel
theorem dX3_logBurst_2 : decode cX3_logBurst 2 = .ok (.getfield 68, 3) := by decide +kernel
theorem dX3_logBurst_5 : decode cX3_logBurst 5 = .ok (.iconst 1, 1) := by decide +kernel
theorem dX3_logBurst_6 : decode cX3_logBurst 6 = .ok (.iadd, 1) := by decide +kernel
theorem dX3_logBurst_7 : decode cX3_logBurst 7 = .ok (.putfield 68, 3) := by decide +kernel
theorem dX3_logBurst_10 : decode cX3_logBurst 10 = .ok (.aload_n 0, 1) := by decide +kernel
theorem dX3_logBurst_11 : decode cX3_logBurst 11 = .ok (.dup, 1) := by decide +kernel
theorem dX3_logBurst_12 : decode cX3_logBurst 12 = .ok (.getfield 71, 3) := by decide +kernel
theorem dX3_logBurst_15 : decode cX3_logBurst 15 = .ok (.aload_n 1, 1) := by decide +kernel
theorem dX3_logBurst_16 : decode cX3_logBurst 16 = .ok (.bipush 8, 2) := by decide +kernel
theorem dX3_logBurst_18 : decode cX3_logBurst 18 = .ok (.iaload, 1) := by decide +kernel
theorem dX3_logBurst_19 : decode cX3_logBurst 19 = .ok (.iadd, 1) := by decide +kernel
theorem dX3_logBurst_20 : decode cX3_logBurst 20 = .ok (.putfield 71, 3) := by decide +kernel
theorem dX3_logBurst_23 : decode cX3_logBurst 23 = .ok (.aload_n 0, 1) := by decide +kernel
theorem dX3_logBurst_24 : decode cX3_logBurst 24 = .ok (.getfield 28, 3) := by decide +kernel
theorem dX3_logBurst_27 : decode cX3_logBurst 27 = .ok (.aload_n 1, 1) := by decide +kernel
theorem dX3_logBurst_28 : decode cX3_logBurst 28 = .ok (.invokevirtual 95, 3) := by decide +kernel
theorem dX3_logBurst_31 : decode cX3_logBurst 31 = .ok (.return_, 1) := by decide +kernel
theorem dX4_init_0 : decode cX4_init 0 = .ok (.aload_n 0, 1) := by decide +kernel
theorem dX4_init_1 : decode cX4_init 1 = .ok (.invokespecial 1, 3) := by decide +kernel
theorem dX4_init_4 : decode cX4_init 4 = .ok (.aload_n 0, 1) := by decide +kernel
theorem dX4_init_5 : decode cX4_init 5 = .ok (.iconst 3, 1) := by decide +kernel
theorem dX4_init_6 : decode cX4_init 6 = .ok (.newarray .int, 2) := by decide +kernel
theorem dX4_init_8 : decode cX4_init 8 = .ok (.putfield 9, 3) := by decide +kernel
theorem dX4_init_11 : decode cX4_init 11 = .ok (.return_, 1) := by decide +kernel
theorem dX4_numbersBehind_0 : decode cX4_numbersBehind 0 = .ok (.iload_n 0, 1) := by decide +kernel
theorem dX4_numbersBehind_1 : decode cX4_numbersBehind 1 = .ok (.lookupswitch 65 #[(97, 63), (98, 59), (109, 61), (112, 59), (114, 59), (119, 61)], 59) := by decide +kernel
theorem dX4_numbersBehind_60 : decode cX4_numbersBehind 60 = .ok (.iconst 1, 1) := by decide +kernel
theorem dX4_numbersBehind_61 : decode cX4_numbersBehind 61 = .ok (.ireturn, 1) := by decide +kernel
theorem dX4_numbersBehind_62 : decode cX4_numbersBehind 62 = .ok (.iconst 2, 1) := by decide +kernel
theorem dX4_numbersBehind_63 : decode cX4_numbersBehind 63 = .ok (.ireturn, 1) := by decide +kernel
theorem dX4_numbersBehind_64 : decode cX4_numbersBehind 64 = .ok (.iconst 3, 1) := by decide +kernel
theorem dX4_numbersBehind_65 : decode cX4_numbersBehind 65 = .ok (.ireturn, 1) := by decide +kernel
theorem dX4_numbersBehind_66 : decode cX4_numbersBehind 66 = .ok (.iconst 0, 1) := by decide +kernel
theorem dX4_numbersBehind_67 : decode cX4_numbersBehind 67 = .ok (.ireturn, 1) := by decide +kernel
theorem dX4_parse_0 : decode cX4_parse 0 = .ok (.aload_n 0, 1) := by decide +kernel
theorem dX4_parse_1 : decode cX4_parse 1 = .ok (.aload_n 1, 1) := by decide +kernel
theorem dX4_parse_2 : decode cX4_parse 2 = .ok (.iload_n 3, 1) := by decide +kernel
theorem dX4_parse_3 : decode cX4_parse 3 = .ok (.caload, 1) := by decide +kernel
theorem dX4_parse_4 : decode cX4_parse 4 = .ok (.putfield 13, 3) := by decide +kernel
theorem dX4_parse_7 : decode cX4_parse 7 = .ok (.aload_n 0, 1) := by decide +kernel
theorem dX4_parse_8 : decode cX4_parse 8 = .ok (.getfield 13, 3) := by decide +kernel
theorem dX4_parse_11 : decode cX4_parse 11 = .ok (.invokestatic 17, 3) := by decide +kernel
theorem dX4_parse_14 : decode cX4_parse 14 = .ok (.istore 4, 2) := by decide +kernel
theorem dX4_parse_16 : decode cX4_parse 16 = .ok (.iload 4, 2) := by decide +kernel
theorem dX4_parse_18 : decode cX4_parse 18 = .ok (.ifCond .le 9, 3) := by decide +kernel
theorem dX4_parse_21 : decode cX4_parse 21 = .ok (.iload_n 3, 1) := by decide +kernel
theorem dX4_parse_22 : decode cX4_parse 22 = .ok (.iconst 1, 1) := by decide +kernel
theorem dX4_parse_23 : decode cX4_parse 23 = .ok (.iadd, 1) := by decide +kernel
theorem dX4_parse_24 : decode cX4_parse 24 = .ok (.goto 4, 3) := by decide +kernel
theorem dX4_parse_27 : decode cX4_parse 27 = .ok (.iload_n 3, 1) := by decide +kernel
theorem dX4_parse_28 : decode cX4_parse 28 = .ok (.istore 5, 2) := by decide +kernel
theorem dX4_parse_30 : decode cX4_parse 30 = .ok (.aload_n 0, 1) := by decide +kernel
theorem dX4_parse_31 : decode cX4_parse 31 = .ok (.iload 4, 2) := by decide +kernel
theorem dX4_parse_33 : decode cX4_parse 33 = .ok (.ifCond .ne 7, 3) := by decide +kernel
theorem dX4_parse_36 : decode cX4_parse 36 = .ok (.iconst 1, 1) := by decide +kernel
theorem dX4_parse_37 : decode cX4_parse 37 = .ok (.goto 4, 3) := by decide +kernel
theorem dX4_parse_40 : decode cX4_parse 40 = .ok (.iconst 0, 1) := by decide +kernel
theorem dX4_parse_41 : decode cX4_parse 41 = .ok (.putfield 21, 3) := by decide +kernel
theorem dX4_parse_44 : decode cX4_parse 44 = .ok (.iconst 0, 1) := by decide +kernel
theorem dX4_parse_45 : decode cX4_parse 45 = .ok (.istore 6, 2) := by decide +kernel
theorem dX4_parse_47 : decode cX4_parse 47 = .ok (.iload 6, 2) := by decide +kernel
theorem dX4_parse_49 : decode cX4_parse 49 = .ok (.iload 4, 2) := by decide +kernel
theorem dX4_parse_51 : decode cX4_parse 51 = .ok (.if_icmp .ge 107, 3) := by decide +kernel
theorem dX4_parse_54 : decode cX4_parse 54 = .ok (.aload_n 0, 1) := by decide +kernel
theorem dX4_parse_55 : decode cX4_parse 55 = .ok (.getfield 21, 3) := by decide +kernel
theorem dX4_parse_58 : decode cX4_parse 58 = .ok (.ifCond .ne 100, 3) := by decide +kernel
theorem dX4_parse_61 : decode cX4_parse 61 = .ok (.aload_n 1, 1) := by decide +kernel
theorem dX4_parse_62 : decode cX4_parse 62 = .ok (.iload_n 2, 1) := by decide +kernel
theorem dX4_parse_63 : decode cX4_parse 63 = .ok (.iload 5, 2) := by decide +kernel
theorem dX4_parse_65 : decode cX4_parse 65 = .ok (.invokestatic 25, 3) := by decide +kernel
theorem dX4_parse_68 : decode cX4_parse 68 = .ok (.istore 7, 2) := by decide +kernel
theorem dX4_parse_70 : decode cX4_parse 70 = .ok (.iload 6, 2) := by decide +kernel
theorem dX4_parse_72 : decode cX4_parse 72 = .ok (.iload 4, 2) := by decide +kernel
theorem dX4_parse_74 : decode cX4_parse 74 = .ok (.iconst 1, 1) := by decide +kernel
theorem dX4_parse_75 : decode cX4_parse 75 = .ok (.isub, 1) := by decide +kernel
theorem dX4_parse_76 : decode cX4_parse 76 = .ok (.if_icmp .ge 8, 3) := by decide +kernel
theorem dX4_parse_79 : decode cX4_parse 79 = .ok (.bipush 44, 2) := by decide +kernel
theorem dX4_parse_81 : decode cX4_parse 81 = .ok (.goto 5, 3) := by decide +kernel
theorem dX4_parse_84 : decode cX4_parse 84 = .ok (.bipush 59, 2) := by decide +kernel
theorem dX4_parse_86 : decode cX4_parse 86 = .ok (.istore 8, 2) := by decide +kernel
theorem dX4_parse_88 : decode cX4_parse 88 = .ok (.aload_n 0, 1) := by decide +kernel
theorem dX4_parse_89 : decode cX4_parse 89 = .ok (.iload 7, 2) := by decide +kernel
theorem dX4_parse_91 : decode cX4_parse 91 = .ok (.iload 5, 2) := by decide +kernel
theorem dX4_parse_93 : decode cX4_parse 93 = .ok (.if_icmp .eq 18, 3) := by decide +kernel
theorem dX4_parse_96 : decode cX4_parse 96 = .ok (.iload 7, 2) := by decide +kernel
theorem dX4_parse_98 : decode cX4_parse 98 = .ok (.iload_n 2, 1) := by decide +kernel
theorem dX4_parse_99 : decode cX4_parse 99 = .ok (.if_icmp .ge 12, 3) := by decide +kernel
theorem dX4_parse_102 : decode cX4_parse 102 = .ok (.aload_n 1, 1) := by decide +kernel
theorem dX4_parse_103 : decode cX4_parse 103 = .ok (.iload 7, 2) := by decide +kernel
theorem dX4_parse_105 : decode cX4_parse 105 = .ok (.caload, 1) := by decide +kernel
theorem dX4_parse_106 : decode cX4_parse 106 = .ok (.iload 8, 2) := by decide +kernel
theorem dX4_parse_108 : decode cX4_parse 108 = .ok (.if_icmp .eq 7, 3) := by decide +kernel
theorem dX4_parse_111 : decode cX4_parse 111 = .ok (.iconst 1, 1) := by decide +kernel
theorem dX4_parse_112 : decode cX4_parse 112 = .ok (.goto 4, 3) := by decide +kernel
theorem dX4_parse_115 : decode cX4_parse 115 = .ok (.iconst 0, 1) := by decide +kernel
theorem dX4_parse_116 : decode cX4_parse 116 = .ok (.putfield 21, 3) := by decide +kernel
theorem dX4_parse_119 : decode cX4_parse 119 = .ok (.aload_n 0, 1) := by decide +kernel
theorem dX4_parse_120 : decode cX4_parse 120 = .ok (.getfield 9, 3) := by decide +kernel
theorem dX4_parse_123 : decode cX4_parse 123 = .ok (.iload 6, 2) := by decide +kernel
theorem dX4_parse_125 : decode cX4_parse 125 = .ok (.aload_n 1, 1) := by decide +kernel
theorem dX4_parse_126 : decode cX4_parse 126 = .ok (.iload 5, 2) := by decide +kernel
theorem dX4_parse_128 : decode cX4_parse 128 = .ok (.iload 7, 2) := by decide +kernel
theorem dX4_parse_130 : decode cX4_parse 130 = .ok (.invokestatic 29, 3) := by decide +kernel
theorem dX4_parse_133 : decode cX4_parse 133 = .ok (.iastore, 1) := by decide +kernel
theorem dX4_parse_134 : decode cX4_parse 134 = .ok (.aload_n 0, 1) := by decide +kernel
theorem dX4_parse_135 : decode cX4_parse 135 = .ok (.getfield 21, 3) := by decide +kernel
theorem dX4_parse_138 : decode cX4_parse 138 = .ok (.ifCond .eq 8, 3) := by decide +kernel
theorem dX4_parse_141 : decode cX4_parse 141 = .ok (.iload 7, 2) := by decide +kernel
theorem dX4_parse_143 : decode cX4_parse 143 = .ok (.goto 7, 3) := by decide +kernel
theorem dX4_parse_146 : decode cX4_parse 146 = .ok (.iload 7, 2) := by decide +kernel
theorem dX4_parse_148 : decode cX4_parse 148 = .ok (.iconst 1, 1) := by decide +kernel
theorem dX4_parse_149 : decode cX4_parse 149 = .ok (.iadd, 1) := by decide +kernel
theorem dX4_parse_150 : decode cX4_parse 150 = .ok (.istore 5, 2) := by decide +kernel
theorem dX4_parse_152 : decode cX4_parse 152 = .ok (.iinc 6 1, 3) := by decide +kernel
theorem dX4_parse_155 : decode cX4_parse 155 = .ok (.goto (-108), 3) := by decide +kernel
theorem dX4_parse_158 : decode cX4_parse 158 = .ok (.aload_n 0, 1) := by decide +kernel
theorem dX4_parse_159 : decode cX4_parse 159 = .ok (.iload 5, 2) := by decide +kernel
theorem dX4_parse_161 : decode cX4_parse 161 = .ok (.iload_n 3, 1) := by decide +kernel
theorem dX4_parse_162 : decode cX4_parse 162 = .ok (.isub, 1) := by decide +kernel
theorem dX4_parse_163 : decode cX4_parse 163 = .ok (.putfield 32, 3) := by decide +kernel
theorem dX4_parse_166 : decode cX4_parse 166 = .ok (.return_, 1) := by decide +kernel
theorem dX4_endOfDigits_0 : decode cX4_endOfDigits 0 = .ok (.iload_n 2, 1) := by decide +kernel
theorem dX4_endOfDigits_1 : decode cX4_endOfDigits 1 = .ok (.istore_n 3, 1) := by decide +kernel
theorem dX4_endOfDigits_2 : decode cX4_endOfDigits 2 = .ok (.iload_n 3, 1) := by decide +kernel
theorem dX4_endOfDigits_3 : decode cX4_endOfDigits 3 = .ok (.iload_n 1, 1) := by decide +kernel
theorem dX4_endOfDigits_4 : decode cX4_endOfDigits 4 = .ok (.if_icmp .ge 32, 3) := by decide +kernel
theorem dX4_endOfDigits_7 : decode cX4_endOfDigits 7 = .ok (.iload_n 3, 1) := by decide +kernel
theorem dX4_endOfDigits_8 : decode cX4_endOfDigits 8 = .ok (.iload_n 2, 1) := by decide +kernel
theorem dX4_endOfDigits_9 : decode cX4_endOfDigits 9 = .ok (.iconst 3, 1) := by decide +kernel
theorem dX4_endOfDigits_10 : decode cX4_endOfDigits 10 = .ok (.iadd, 1) := by decide +kernel
theorem dX4_endOfDigits_11 : decode cX4_endOfDigits 11 = .ok (.if_icmp .ge 25, 3) := by decide +kernel
theorem dX4_endOfDigits_14 : decode cX4_endOfDigits 14 = .ok (.aload_n 0, 1) := by decide +kernel
theorem dX4_endOfDigits_15 : decode cX4_endOfDigits 15 = .ok (.iload_n 3, 1) := by decide +kernel
theorem dX4_endOfDigits_16 : decode cX4_endOfDigits 16 = .ok (.caload, 1) := by decide +kernel
theorem dX4_endOfDigits_17 : decode cX4_endOfDigits 17 = .ok (.bipush 48, 2) := by decide +kernel
theorem dX4_endOfDigits_19 : decode cX4_endOfDigits 19 = .ok (.if_icmp .lt 17, 3) := by decide +kernel
theorem dX4_endOfDigits_22 : decode cX4_endOfDigits 22 = .ok (.aload_n 0, 1) := by decide +kernel
theorem dX4_endOfDigits_23 : decode cX4_endOfDigits 23 = .ok (.iload_n 3, 1) := by decide +kernel
theorem dX4_endOfDigits_24 : decode cX4_endOfDigits 24 = .ok (.caload, 1) := by decide +kernel
theorem dX4_endOfDigits_25 : decode cX4_endOfDigits 25 = .ok (.bipush 57, 2) := by decide +kernel
theorem dX4_endOfDigits_27 : decode cX4_endOfDigits 27 = .ok (.if_icmp .gt 9, 3) := by decide +kernel
theorem dX4_endOfDigits_30 : decode cX4_endOfDigits 30 = .ok (.iinc 3 1, 3) := by decide +kernel
theorem dX4_endOfDigits_33 : decode cX4_endOfDigits 33 = .ok (.goto (-31), 3) := by decide +kernel
theorem dX4_endOfDigits_36 : decode cX4_endOfDigits 36 = .ok (.iload_n 3, 1) := by decide +kernel
theorem dX4_endOfDigits_37 : decode cX4_endOfDigits 37 = .ok (.ireturn, 1) := by decide +kernel
theorem dX4_numberIn_0 : decode cX4_numberIn 0 = .ok (.iconst 0, 1) := by decide +kernel
theorem dX4_numberIn_1 : decode cX4_numberIn 1 = .ok (.istore_n 3, 1) := by decide +kernel
theorem dX4_numberIn_2 : decode cX4_numberIn 2 = .ok (.iload_n 1, 1) := by decide +kernel
theorem dX4_numberIn_3 : decode cX4_numberIn 3 = .ok (.istore 4, 2) := by decide +kernel
theorem dX4_numberIn_5 : decode cX4_numberIn 5 = .ok (.iload 4, 2) := by decide +kernel
theorem dX4_numberIn_7 : decode cX4_numberIn 7 = .ok (.iload_n 2, 1) := by decide +kernel
theorem dX4_numberIn_8 : decode cX4_numberIn 8 = .ok (.if_icmp .ge 22, 3) := by decide +kernel
theorem dX4_numberIn_11 : decode cX4_numberIn 11 = .ok (.bipush 10, 2) := by decide +kernel
theorem dX4_numberIn_13 : decode cX4_numberIn 13 = .ok (.iload_n 3, 1) := by decide +kernel
theorem dX4_numberIn_14 : decode cX4_numberIn 14 = .ok (.imul, 1) := by decide +kernel
theorem dX4_numberIn_15 : decode cX4_numberIn 15 = .ok (.aload_n 0, 1) := by decide +kernel
theorem dX4_numberIn_16 : decode cX4_numberIn 16 = .ok (.iload 4, 2) := by decide +kernel
theorem dX4_numberIn_18 : decode cX4_numberIn 18 = .ok (.caload, 1) := by decide +kernel
theorem dX4_numberIn_19 : decode cX4_numberIn 19 = .ok (.iadd, 1) := by decide +kernel
theorem dX4_numberIn_20 : decode cX4_numberIn 20 = .ok (.bipush 48, 2) := by decide +kernel
theorem dX4_numberIn_22 : decode cX4_numberIn 22 = .ok (.isub, 1) := by decide +kernel
theorem dX4_numberIn_23 : decode cX4_numberIn 23 = .ok (.istore_n 3, 1) := by decide +kernel
theorem dX4_numberIn_24 : decode cX4_numberIn 24 = .ok (.iinc 4 1, 3) := by decide +kernel
theorem dX4_numberIn_27 : decode cX4_numberIn 27 = .ok (.goto (-22), 3) := by decide +kernel
theorem dX4_numberIn_30 : decode cX4_numberIn 30 = .ok (.iload_n 3, 1) := by decide +kernel
theorem dX4_numberIn_31 : decode cX4_numberIn 31 = .ok (.ireturn, 1) := by decide +kernel
theorem dX5_init_0 : decode cX5_init 0 = .ok (.aload_n 0, 1) := by decide +kernel
theorem dX5_init_1 : decode cX5_init 1 = .ok (.invokespecial 3, 3) := by decide +kernel
theorem dX5_init_4 : decode cX5_init 4 = .ok (.aload_n 0, 1) := by decide +kernel
theorem dX5_init_5 : decode cX5_init 5 = .ok (.bipush 7, 2) := by decide +kernel
theorem dX5_init_7 : decode cX5_init 7 = .ok (.newarray .int, 2) := by decide +kernel
theorem dX5_init_9 : decode cX5_init 9 = .ok (.putfield 9, 3) := by decide +kernel
theorem dX5_init_12 : decode cX5_init 12 = .ok (.aload_n 0, 1) := by decide +kernel
theorem dX5_init_13 : decode cX5_init 13 = .ok (.bipush 7, 2) := by decide +kernel
theorem dX5_init_15 : decode cX5_init 15 = .ok (.newarray .int, 2) := by decide +kernel
theorem dX5_init_17 : decode cX5_init 17 = .ok (.putfield 15, 3) := by decide +kernel
theorem dX5_init_20 : decode cX5_init 20 = .ok (.aload_n 0, 1) := by decide +kernel
theorem dX5_init_21 : decode cX5_init 21 = .ok (.bipush 7, 2) := by decide +kernel
theorem dX5_init_23 : decode cX5_init 23 = .ok (.newarray .int, 2) := by decide +kernel
theorem dX5_init_25 : decode cX5_init 25 = .ok (.putfield 18, 3) := by decide +kernel
theorem dX5_init_28 : decode cX5_init 28 = .ok (.aload_n 0, 1) := by decide +kernel
theorem dX5_init_29 : decode cX5_init 29 = .ok (.bipush 7, 2) := by decide +kernel
theorem dX5_init_31 : decode cX5_init 31 = .ok (.newarray .int, 2) := by decide +kernel
theorem dX5_init_33 : decode cX5_init 33 = .ok (.putfield 21, 3) := by decide +kernel
theorem dX5_init_36 : decode cX5_init 36 = .ok (.getstatic 24, 3) := by decide +kernel
theorem dX5_init_39 : decode cX5_init 39 = .ok (.iconst 0, 1) := by decide +kernel
theorem dX5_init_40 : decode cX5_init 40 = .ok (.aload_n 0, 1) := by decide +kernel
theorem dX5_init_41 : decode cX5_init 41 = .ok (.getfield 9, 3) := by decide +kernel
theorem dX5_init_44 : decode cX5_init 44 = .ok (.iconst 0, 1) := by decide +kernel
theorem dX5_init_45 : decode cX5_init 45 = .ok (.bipush 7, 2) := by decide +kernel
theorem dX5_init_47 : decode cX5_init 47 = .ok (.invokestatic 27, 3) := by decide +kernel
theorem dX5_init_50 : decode cX5_init 50 = .ok (.aload_n 0, 1) := by decide +kernel
theorem dX5_init_51 : decode cX5_init 51 = .ok (.getfield 9, 3) := by decide +kernel
theorem dX5_init_54 : decode cX5_init 54 = .ok (.iconst 3, 1) := by decide +kernel
theorem dX5_init_55 : decode cX5_init 55 = .ok (.bipush 6, 2) := by decide +kernel
theorem dX5_init_57 : decode cX5_init 57 = .ok (.iastore, 1) := by decide +kernel
theorem dX5_init_58 : decode cX5_init 58 = .ok (.return_, 1) := by decide +kernel
theorem dX5_copyFrom_0 : decode cX5_copyFrom 0 = .ok (.aload_n 1, 1) := by decide +kernel
theorem dX5_copyFrom_1 : decode cX5_copyFrom 1 = .ok (.getfield 9, 3) := by decide +kernel
theorem dX5_copyFrom_4 : decode cX5_copyFrom 4 = .ok (.iconst 0, 1) := by decide +kernel
theorem dX5_copyFrom_5 : decode cX5_copyFrom 5 = .ok (.aload_n 0, 1) := by decide +kernel
theorem dX5_copyFrom_6 : decode cX5_copyFrom 6 = .ok (.getfield 9, 3) := by decide +kernel
theorem dX5_copyFrom_9 : decode cX5_copyFrom 9 = .ok (.iconst 0, 1) := by decide +kernel
theorem dX5_copyFrom_10 : decode cX5_copyFrom 10 = .ok (.bipush 7, 2) := by decide +kernel
theorem dX5_copyFrom_12 : decode cX5_copyFrom 12 = .ok (.invokestatic 27, 3) := by decide +kernel
theorem dX5_copyFrom_15 : decode cX5_copyFrom 15 = .ok (.aload_n 1, 1) := by decide +kernel
theorem dX5_copyFrom_16 : decode cX5_copyFrom 16 = .ok (.getfield 15, 3) := by decide +kernel
theorem dX5_copyFrom_19 : decode cX5_copyFrom 19 = .ok (.iconst 0, 1) := by decide +kernel
theorem dX5_copyFrom_20 : decode cX5_copyFrom 20 = .ok (.aload_n 0, 1) := by decide +kernel
theorem dX5_copyFrom_21 : decode cX5_copyFrom 21 = .ok (.getfield 15, 3) := by decide +kernel
theorem dX5_copyFrom_24 : decode cX5_copyFrom 24 = .ok (.iconst 0, 1) := by decide +kernel
theorem dX5_copyFrom_25 : decode cX5_copyFrom 25 = .ok (.bipush 7, 2) := by decide +kernel
theorem dX5_copyFrom_27 : decode cX5_copyFrom 27 = .ok (.invokestatic 27, 3) := by decide +kernel
theorem dX5_copyFrom_30 : decode cX5_copyFrom 30 = .ok (.aload_n 1, 1) := by decide +kernel
theorem dX5_copyFrom_31 : decode cX5_copyFrom 31 = .ok (.getfield 18, 3) := by decide +kernel
theorem dX5_copyFrom_34 : decode cX5_copyFrom 34 = .ok (.iconst 0, 1) := by decide +kernel
theorem dX5_copyFrom_35 : decode cX5_copyFrom 35 = .ok (.aload_n 0, 1) := by decide +kernel
theorem dX5_copyFrom_36 : decode cX5_copyFrom 36 = .ok (.getfield 18, 3) := by decide +kernel
theorem dX5_copyFrom_39 : decode cX5_copyFrom 39 = .ok (.iconst 0, 1) := by decide +kernel
theorem dX5_copyFrom_40 : decode cX5_copyFrom 40 = .ok (.bipush 7, 2) := by decide +kernel
theorem dX5_copyFrom_42 : decode cX5_copyFrom 42 = .ok (.invokestatic 27, 3) := by decide +kernel
theorem dX5_copyFrom_45 : decode cX5_copyFrom 45 = .ok (.aload_n 1, 1) := by decide +kernel
theorem dX5_copyFrom_46 : decode cX5_copyFrom 46 = .ok (.getfield 21, 3) := by decide +kernel
theorem dX5_copyFrom_49 : decode cX5_copyFrom 49 = .ok (.iconst 0, 1) := by decide +kernel
theorem dX5_copyFrom_50 : decode cX5_copyFrom 50 = .ok (.aload_n 0, 1) := by decide +kernel
theorem dX5_copyFrom_51 : decode cX5_copyFrom 51 = .ok (.getfield 21, 3) := by decide +kernel
theorem dX5_copyFrom_54 : decode cX5_copyFrom 54 = .ok (.iconst 0, 1) := by decide +kernel
theorem dX5_copyFrom_55 : decode cX5_copyFrom 55 = .ok (.bipush 7, 2) := by decide +kernel
theorem dX5_copyFrom_57 : decode cX5_copyFrom 57 = .ok (.invokestatic 27, 3) := by decide +kernel
theorem dX5_copyFrom_60 : decode cX5_copyFrom 60 = .ok (.return_, 1) := by decide +kernel
theorem dX5_lastValue_0 : decode cX5_lastValue 0 = .ok (.iload_n 1, 1) := by decide +kernel
theorem dX5_lastValue_1 : decode cX5_lastValue 1 = .ok (.iconst 4, 1) := by decide +kernel
theorem dX5_lastValue_2 : decode cX5_lastValue 2 = .ok (.if_icmp .eq 9, 3) := by decide +kernel
theorem dX5_lastValue_5 : decode cX5_lastValue 5 = .ok (.getstatic 33, 3) := by decide +kernel
theorem dX5_lastValue_8 : decode cX5_lastValue 8 = .ok (.iload_n 1, 1) := by decide +kernel
theorem dX5_lastValue_9 : decode cX5_lastValue 9 = .ok (.iaload, 1) := by decide +kernel
theorem dX5_lastValue_10 : decode cX5_lastValue 10 = .ok (.ireturn, 1) := by decide +kernel
theorem dX5_lastValue_11 : decode cX5_lastValue 11 = .ok (.aload_n 0, 1) := by decide +kernel
theorem dX5_lastValue_12 : decode cX5_lastValue 12 = .ok (.getfield 9, 3) := by decide +kernel
theorem dX5_lastValue_15 : decode cX5_lastValue 15 = .ok (.iconst 5, 1) := by decide +kernel
theorem dX5_lastValue_16 : decode cX5_lastValue 16 = .ok (.iaload, 1) := by decide +kernel
theorem dX5_lastValue_17 : decode cX5_lastValue 17 = .ok (.lookupswitch 69 #[(2, 54), (4, 51), (6, 51), (9, 51), (17, 51)], 51) := by decide +kernel
theorem dX5_lastValue_68 : decode cX5_lastValue 68 = .ok (.bipush 48, 2) := by decide +kernel
theorem dX5_lastValue_70 : decode cX5_lastValue 70 = .ok (.ireturn, 1) := by decide +kernel
theorem dX5_lastValue_71 : decode cX5_lastValue 71 = .ok (.aload_n 0, 1) := by decide +kernel
theorem dX5_lastValue_72 : decode cX5_lastValue 72 = .ok (.invokevirtual 36, 3) := by decide +kernel
theorem dX5_lastValue_75 : decode cX5_lastValue 75 = .ok (.ifCond .eq 8, 3) := by decide +kernel
theorem dX5_lastValue_78 : decode cX5_lastValue 78 = .ok (.bipush 41, 2) := by decide +kernel
theorem dX5_lastValue_80 : decode cX5_lastValue 80 = .ok (.goto 5, 3) := by decide +kernel
theorem dX5_lastValue_83 : decode cX5_lastValue 83 = .ok (.bipush 40, 2) := by decide +kernel
theorem dX5_lastValue_85 : decode cX5_lastValue 85 = .ok (.ireturn, 1) := by decide +kernel
theorem dX5_lastValue_86 : decode cX5_lastValue 86 = .ok (.getstatic 33, 3) := by decide +kernel
theorem dX5_lastValue_89 : decode cX5_lastValue 89 = .ok (.iconst 4, 1) := by decide +kernel
theorem dX5_lastValue_90 : decode cX5_lastValue 90 = .ok (.iaload, 1) := by decide +kernel
theorem dX5_lastValue_91 : decode cX5_lastValue 91 = .ok (.ireturn, 1) := by decide +kernel
theorem dX5_isLeapYear_0 : decode cX5_isLeapYear 0 = .ok (.aload_n 0, 1) := by decide +kernel
theorem dX5_isLeapYear_1 : decode cX5_isLeapYear 1 = .ok (.getfield 9, 3) := by decide +kernel
theorem dX5_isLeapYear_4 : decode cX5_isLeapYear 4 = .ok (.bipush 6, 2) := by decide +kernel
theorem dX5_isLeapYear_6 : decode cX5_isLeapYear 6 = .ok (.iaload, 1) := by decide +kernel
theorem dX5_isLeapYear_7 : decode cX5_isLeapYear 7 = .ok (.iconst 4, 1) := by decide +kernel
theorem dX5_isLeapYear_8 : decode cX5_isLeapYear 8 = .ok (.ishr, 1) := by decide +kernel
theorem dX5_isLeapYear_9 : decode cX5_isLeapYear 9 = .ok (.istore_n 1, 1) := by decide +kernel
theorem dX5_isLeapYear_10 : decode cX5_isLeapYear 10 = .ok (.aload_n 0, 1) := by decide +kernel
theorem dX5_isLeapYear_11 : decode cX5_isLeapYear 11 = .ok (.getfield 9, 3) := by decide +kernel
theorem dX5_isLeapYear_14 : decode cX5_isLeapYear 14 = .ok (.bipush 6, 2) := by decide +kernel
theorem dX5_isLeapYear_16 : decode cX5_isLeapYear 16 = .ok (.iaload, 1) := by decide +kernel
theorem dX5_isLeapYear_17 : decode cX5_isLeapYear 17 = .ok (.bipush 15, 2) := by decide +kernel
theorem dX5_isLeapYear_19 : decode cX5_isLeapYear 19 = .ok (.iand, 1) := by decide +kernel
theorem dX5_isLeapYear_20 : decode cX5_isLeapYear 20 = .ok (.istore_n 2, 1) := by decide +kernel
theorem dX5_isLeapYear_21 : decode cX5_isLeapYear 21 = .ok (.iload_n 1, 1) := by decide +kernel
theorem dX5_isLeapYear_22 : decode cX5_isLeapYear 22 = .ok (.bipush 9, 2) := by decide +kernel
theorem dX5_isLeapYear_24 : decode cX5_isLeapYear 24 = .ok (.if_icmp .gt 24, 3) := by decide +kernel
theorem dX5_isLeapYear_27 : decode cX5_isLeapYear 27 = .ok (.iload_n 2, 1) := by decide +kernel
theorem dX5_isLeapYear_28 : decode cX5_isLeapYear 28 = .ok (.bipush 9, 2) := by decide +kernel
theorem dX5_isLeapYear_30 : decode cX5_isLeapYear 30 = .ok (.if_icmp .gt 18, 3) := by decide +kernel
theorem dX5_isLeapYear_33 : decode cX5_isLeapYear 33 = .ok (.bipush 10, 2) := by decide +kernel
theorem dX5_isLeapYear_35 : decode cX5_isLeapYear 35 = .ok (.iload_n 1, 1) := by decide +kernel
theorem dX5_isLeapYear_36 : decode cX5_isLeapYear 36 = .ok (.imul, 1) := by decide +kernel
theorem dX5_isLeapYear_37 : decode cX5_isLeapYear 37 = .ok (.iload_n 2, 1) := by decide +kernel
theorem dX5_isLeapYear_38 : decode cX5_isLeapYear 38 = .ok (.iadd, 1) := by decide +kernel
theorem dX5_isLeapYear_39 : decode cX5_isLeapYear 39 = .ok (.iconst 4, 1) := by decide +kernel
theorem dX5_isLeapYear_40 : decode cX5_isLeapYear 40 = .ok (.irem, 1) := by decide +kernel
theorem dX5_isLeapYear_41 : decode cX5_isLeapYear 41 = .ok (.ifCond .ne 7, 3) := by decide +kernel
theorem dX5_isLeapYear_44 : decode cX5_isLeapYear 44 = .ok (.iconst 1, 1) := by decide +kernel
theorem dX5_isLeapYear_45 : decode cX5_isLeapYear 45 = .ok (.goto 4, 3) := by decide +kernel
theorem dX5_isLeapYear_48 : decode cX5_isLeapYear 48 = .ok (.iconst 0, 1) := by decide +kernel
theorem dX5_isLeapYear_49 : decode cX5_isLeapYear 49 = .ok (.ireturn, 1) := by decide +kernel
theorem dX5_whyWrong_0 : decode cX5_whyWrong 0 = .ok (.aload_n 0, 1) := by decide +kernel
theorem dX5_whyWrong_1 : decode cX5_whyWrong 1 = .ok (.getfield 9, 3) := by decide +kernel
theorem dX5_whyWrong_4 : decode cX5_whyWrong 4 = .ok (.iload_n 1, 1) := by decide +kernel
theorem dX5_whyWrong_5 : decode cX5_whyWrong 5 = .ok (.iaload, 1) := by decide +kernel
theorem dX5_whyWrong_6 : decode cX5_whyWrong 6 = .ok (.istore_n 2, 1) := by decide +kernel
theorem dX5_whyWrong_7 : decode cX5_whyWrong 7 = .ok (.iload_n 2, 1) := by decide +kernel
theorem dX5_whyWrong_8 : decode cX5_whyWrong 8 = .ok (.iconst 4, 1) := by decide +kernel
theorem dX5_whyWrong_9 : decode cX5_whyWrong 9 = .ok (.ishr, 1) := by decide +kernel
theorem dX5_whyWrong_10 : decode cX5_whyWrong 10 = .ok (.bipush 9, 2) := by decide +kernel
theorem dX5_whyWrong_12 : decode cX5_whyWrong 12 = .ok (.if_icmp .gt 12, 3) := by decide +kernel
theorem dX5_whyWrong_15 : decode cX5_whyWrong 15 = .ok (.iload_n 2, 1) := by decide +kernel
theorem dX5_whyWrong_16 : decode cX5_whyWrong 16 = .ok (.bipush 15, 2) := by decide +kernel
theorem dX5_whyWrong_18 : decode cX5_whyWrong 18 = .ok (.iand, 1) := by decide +kernel
theorem dX5_whyWrong_19 : decode cX5_whyWrong 19 = .ok (.bipush 9, 2) := by decide +kernel
theorem dX5_whyWrong_21 : decode cX5_whyWrong 21 = .ok (.if_icmp .le 5, 3) := by decide +kernel
theorem dX5_whyWrong_24 : decode cX5_whyWrong 24 = .ok (.iconst 1, 1) := by decide +kernel
theorem dX5_whyWrong_25 : decode cX5_whyWrong 25 = .ok (.ireturn, 1) := by decide +kernel
theorem dX5_whyWrong_26 : decode cX5_whyWrong 26 = .ok (.iload_n 2, 1) := by decide +kernel
theorem dX5_whyWrong_27 : decode cX5_whyWrong 27 = .ok (.getstatic 24, 3) := by decide +kernel
theorem dX5_whyWrong_30 : decode cX5_whyWrong 30 = .ok (.iload_n 1, 1) := by decide +kernel
theorem dX5_whyWrong_31 : decode cX5_whyWrong 31 = .ok (.iaload, 1) := by decide +kernel
theorem dX5_whyWrong_32 : decode cX5_whyWrong 32 = .ok (.if_icmp .ge 5, 3) := by decide +kernel
theorem dX5_whyWrong_35 : decode cX5_whyWrong 35 = .ok (.iconst 2, 1) := by decide +kernel
theorem dX5_whyWrong_36 : decode cX5_whyWrong 36 = .ok (.ireturn, 1) := by decide +kernel
theorem dX5_whyWrong_37 : decode cX5_whyWrong 37 = .ok (.iload_n 2, 1) := by decide +kernel
theorem dX5_whyWrong_38 : decode cX5_whyWrong 38 = .ok (.aload_n 0, 1) := by decide +kernel
theorem dX5_whyWrong_39 : decode cX5_whyWrong 39 = .ok (.iload_n 1, 1) := by decide +kernel
theorem dX5_whyWrong_40 : decode cX5_whyWrong 40 = .ok (.invokevirtual 40, 3) := by decide +kernel
theorem dX5_whyWrong_43 : decode cX5_whyWrong 43 = .ok (.if_icmp .le 7, 3) := by decide +kernel
theorem dX5_whyWrong_46 : decode cX5_whyWrong 46 = .ok (.iconst 3, 1) := by decide +kernel
theorem dX5_whyWrong_47 : decode cX5_whyWrong 47 = .ok (.goto 4, 3) := by decide +kernel
theorem dX5_whyWrong_50 : decode cX5_whyWrong 50 = .ok (.iconst 0, 1) := by decide +kernel
theorem dX5_whyWrong_51 : decode cX5_whyWrong 51 = .ok (.ireturn, 1) := by decide +kernel
theorem dX5_wrongOnes_0 : decode cX5_wrongOnes 0 = .ok (.iconst 0, 1) := by decide +kernel
theorem dX5_wrongOnes_1 : decode cX5_wrongOnes 1 = .ok (.istore_n 1, 1) := by decide +kernel
theorem dX5_wrongOnes_2 : decode cX5_wrongOnes 2 = .ok (.iconst 0, 1) := by decide +kernel
theorem dX5_wrongOnes_3 : decode cX5_wrongOnes 3 = .ok (.istore_n 2, 1) := by decide +kernel
theorem dX5_wrongOnes_4 : decode cX5_wrongOnes 4 = .ok (.iload_n 2, 1) := by decide +kernel
theorem dX5_wrongOnes_5 : decode cX5_wrongOnes 5 = .ok (.bipush 7, 2) := by decide +kernel
theorem dX5_wrongOnes_7 : decode cX5_wrongOnes 7 = .ok (.if_icmp .ge 23, 3) := by decide +kernel
theorem dX5_wrongOnes_10 : decode cX5_wrongOnes 10 = .ok (.aload_n 0, 1) := by decide +kernel
theorem dX5_wrongOnes_11 : decode cX5_wrongOnes 11 = .ok (.iload_n 2, 1) := by decide +kernel
theorem dX5_wrongOnes_12 : decode cX5_wrongOnes 12 = .ok (.invokevirtual 44, 3) := by decide +kernel
theorem dX5_wrongOnes_15 : decode cX5_wrongOnes 15 = .ok (.ifCond .eq 9, 3) := by decide +kernel
theorem dX5_wrongOnes_18 : decode cX5_wrongOnes 18 = .ok (.iload_n 1, 1) := by decide +kernel
theorem dX5_wrongOnes_19 : decode cX5_wrongOnes 19 = .ok (.iconst 1, 1) := by decide +kernel
theorem dX5_wrongOnes_20 : decode cX5_wrongOnes 20 = .ok (.iload_n 2, 1) := by decide +kernel
theorem dX5_wrongOnes_21 : decode cX5_wrongOnes 21 = .ok (.ishl, 1) := by decide +kernel
theorem dX5_wrongOnes_22 : decode cX5_wrongOnes 22 = .ok (.ior, 1) := by decide +kernel
theorem dX5_wrongOnes_23 : decode cX5_wrongOnes 23 = .ok (.istore_n 1, 1) := by decide +kernel
theorem dX5_wrongOnes_24 : decode cX5_wrongOnes 24 = .ok (.iinc 2 1, 3) := by decide +kernel
theorem dX5_wrongOnes_27 : decode cX5_wrongOnes 27 = .ok (.goto (-23), 3) := by decide +kernel
theorem dX5_wrongOnes_30 : decode cX5_wrongOnes 30 = .ok (.iload_n 1, 1) := by decide +kernel
theorem dX5_wrongOnes_31 : decode cX5_wrongOnes 31 = .ok (.ireturn, 1) := by decide +kernel
theorem dX5_withCells_0 : decode cX5_withCells 0 = .ok (.iload_n 2, 1) := by decide +kernel
theorem dX5_withCells_1 : decode cX5_withCells 1 = .ok (.aload_n 0, 1) := by decide +kernel
theorem dX5_withCells_2 : decode cX5_withCells 2 = .ok (.getfield 15, 3) := by decide +kernel
theorem dX5_withCells_5 : decode cX5_withCells 5 = .ok (.iload_n 1, 1) := by decide +kernel
theorem dX5_withCells_6 : decode cX5_withCells 6 = .ok (.iaload, 1) := by decide +kernel
theorem dX5_withCells_7 : decode cX5_withCells 7 = .ok (.iconst (-1), 1) := by decide +kernel
theorem dX5_withCells_8 : decode cX5_withCells 8 = .ok (.ixor, 1) := by decide +kernel
theorem dX5_withCells_9 : decode cX5_withCells 9 = .ok (.iand, 1) := by decide +kernel
theorem dX5_withCells_10 : decode cX5_withCells 10 = .ok (.aload_n 0, 1) := by decide +kernel
theorem dX5_withCells_11 : decode cX5_withCells 11 = .ok (.getfield 18, 3) := by decide +kernel
theorem dX5_withCells_14 : decode cX5_withCells 14 = .ok (.iload_n 1, 1) := by decide +kernel
theorem dX5_withCells_15 : decode cX5_withCells 15 = .ok (.iaload, 1) := by decide +kernel
theorem dX5_withCells_16 : decode cX5_withCells 16 = .ok (.ior, 1) := by decide +kernel
theorem dX5_withCells_17 : decode cX5_withCells 17 = .ok (.ireturn, 1) := by decide +kernel
theorem dX5_hasFailed_0 : decode cX5_hasFailed 0 = .ok (.aload_n 0, 1) := by decide +kernel
theorem dX5_hasFailed_1 : decode cX5_hasFailed 1 = .ok (.getfield 15, 3) := by decide +kernel
theorem dX5_hasFailed_4 : decode cX5_hasFailed 4 = .ok (.iload_n 1, 1) := by decide +kernel
theorem dX5_hasFailed_5 : decode cX5_hasFailed 5 = .ok (.iaload, 1) := by decide +kernel
theorem dX5_hasFailed_6 : decode cX5_hasFailed 6 = .ok (.iload_n 2, 1) := by decide +kernel
theorem dX5_hasFailed_7 : decode cX5_hasFailed 7 = .ok (.invokestatic 47, 3) := by decide +kernel
theorem dX5_hasFailed_10 : decode cX5_hasFailed 10 = .ok (.iconst 1, 1) := by decide +kernel
theorem dX5_hasFailed_11 : decode cX5_hasFailed 11 = .ok (.if_icmp .ne 7, 3) := by decide +kernel
theorem dX5_hasFailed_14 : decode cX5_hasFailed 14 = .ok (.iconst 1, 1) := by decide +kernel
theorem dX5_hasFailed_15 : decode cX5_hasFailed 15 = .ok (.goto 4, 3) := by decide +kernel
theorem dX5_hasFailed_18 : decode cX5_hasFailed 18 = .ok (.iconst 0, 1) := by decide +kernel
theorem dX5_hasFailed_19 : decode cX5_hasFailed 19 = .ok (.ireturn, 1) := by decide +kernel
theorem dX5_failCell_0 : decode cX5_failCell 0 = .ok (.aload_n 0, 1) := by decide +kernel
theorem dX5_failCell_1 : decode cX5_failCell 1 = .ok (.getfield 15, 3) := by decide +kernel
theorem dX5_failCell_4 : decode cX5_failCell 4 = .ok (.iload_n 1, 1) := by decide +kernel
theorem dX5_failCell_5 : decode cX5_failCell 5 = .ok (.dup2, 1) := by decide +kernel
theorem dX5_failCell_6 : decode cX5_failCell 6 = .ok (.iaload, 1) := by decide +kernel
theorem dX5_failCell_7 : decode cX5_failCell 7 = .ok (.iconst 1, 1) := by decide +kernel
theorem dX5_failCell_8 : decode cX5_failCell 8 = .ok (.iload_n 2, 1) := by decide +kernel
theorem dX5_failCell_9 : decode cX5_failCell 9 = .ok (.ishl, 1) := by decide +kernel
theorem dX5_failCell_10 : decode cX5_failCell 10 = .ok (.ior, 1) := by decide +kernel
theorem dX5_failCell_11 : decode cX5_failCell 11 = .ok (.iastore, 1) := by decide +kernel
theorem dX5_failCell_12 : decode cX5_failCell 12 = .ok (.aload_n 0, 1) := by decide +kernel
theorem dX5_failCell_13 : decode cX5_failCell 13 = .ok (.getfield 18, 3) := by decide +kernel
theorem dX5_failCell_16 : decode cX5_failCell 16 = .ok (.iload_n 1, 1) := by decide +kernel
theorem dX5_failCell_17 : decode cX5_failCell 17 = .ok (.dup2, 1) := by decide +kernel
theorem dX5_failCell_18 : decode cX5_failCell 18 = .ok (.iaload, 1) := by decide +kernel
theorem dX5_failCell_19 : decode cX5_failCell 19 = .ok (.iload_n 3, 1) := by decide +kernel
theorem dX5_failCell_20 : decode cX5_failCell 20 = .ok (.iload_n 2, 1) := by decide +kernel
theorem dX5_failCell_21 : decode cX5_failCell 21 = .ok (.ishl, 1) := by decide +kernel
theorem dX5_failCell_22 : decode cX5_failCell 22 = .ok (.ior, 1) := by decide +kernel
theorem dX5_failCell_23 : decode cX5_failCell 23 = .ok (.iastore, 1) := by decide +kernel
theorem dX5_failCell_24 : decode cX5_failCell 24 = .ok (.aload_n 0, 1) := by decide +kernel
theorem dX5_failCell_25 : decode cX5_failCell 25 = .ok (.getfield 9, 3) := by decide +kernel
theorem dX5_failCell_28 : decode cX5_failCell 28 = .ok (.iload_n 1, 1) := by decide +kernel
theorem dX5_failCell_29 : decode cX5_failCell 29 = .ok (.aload_n 0, 1) := by decide +kernel
theorem dX5_failCell_30 : decode cX5_failCell 30 = .ok (.iload_n 1, 1) := by decide +kernel
theorem dX5_failCell_31 : decode cX5_failCell 31 = .ok (.aload_n 0, 1) := by decide +kernel
theorem dX5_failCell_32 : decode cX5_failCell 32 = .ok (.getfield 9, 3) := by decide +kernel
theorem dX5_failCell_35 : decode cX5_failCell 35 = .ok (.iload_n 1, 1) := by decide +kernel
theorem dX5_failCell_36 : decode cX5_failCell 36 = .ok (.iaload, 1) := by decide +kernel
theorem dX5_failCell_37 : decode cX5_failCell 37 = .ok (.invokevirtual 51, 3) := by decide +kernel
theorem dX5_failCell_40 : decode cX5_failCell 40 = .ok (.iastore, 1) := by decide +kernel
theorem dX5_failCell_41 : decode cX5_failCell 41 = .ok (.aload_n 0, 1) := by decide +kernel
theorem dX5_failCell_42 : decode cX5_failCell 42 = .ok (.getfield 9, 3) := by decide +kernel
theorem dX5_failCell_45 : decode cX5_failCell 45 = .ok (.iload_n 1, 1) := by decide +kernel
theorem dX5_failCell_46 : decode cX5_failCell 46 = .ok (.iaload, 1) := by decide +kernel
theorem dX5_failCell_47 : decode cX5_failCell 47 = .ok (.ireturn, 1) := by decide +kernel
theorem dX5_healCell_0 : decode cX5_healCell 0 = .ok (.aload_n 0, 1) := by decide +kernel
theorem dX5_healCell_1 : decode cX5_healCell 1 = .ok (.getfield 15, 3) := by decide +kernel
theorem dX5_healCell_4 : decode cX5_healCell 4 = .ok (.iload_n 1, 1) := by decide +kernel
theorem dX5_healCell_5 : decode cX5_healCell 5 = .ok (.dup2, 1) := by decide +kernel
theorem dX5_healCell_6 : decode cX5_healCell 6 = .ok (.iaload, 1) := by decide +kernel
theorem dX5_healCell_7 : decode cX5_healCell 7 = .ok (.iconst 1, 1) := by decide +kernel
theorem dX5_healCell_8 : decode cX5_healCell 8 = .ok (.iload_n 2, 1) := by decide +kernel
theorem dX5_healCell_9 : decode cX5_healCell 9 = .ok (.ishl, 1) := by decide +kernel
theorem dX5_healCell_10 : decode cX5_healCell 10 = .ok (.iconst (-1), 1) := by decide +kernel
theorem dX5_healCell_11 : decode cX5_healCell 11 = .ok (.ixor, 1) := by decide +kernel
theorem dX5_healCell_12 : decode cX5_healCell 12 = .ok (.iand, 1) := by decide +kernel
theorem dX5_healCell_13 : decode cX5_healCell 13 = .ok (.iastore, 1) := by decide +kernel
theorem dX5_healCell_14 : decode cX5_healCell 14 = .ok (.aload_n 0, 1) := by decide +kernel
theorem dX5_healCell_15 : decode cX5_healCell 15 = .ok (.getfield 18, 3) := by decide +kernel
theorem dX5_healCell_18 : decode cX5_healCell 18 = .ok (.iload_n 1, 1) := by decide +kernel
theorem dX5_healCell_19 : decode cX5_healCell 19 = .ok (.dup2, 1) := by decide +kernel
theorem dX5_healCell_20 : decode cX5_healCell 20 = .ok (.iaload, 1) := by decide +kernel
theorem dX5_healCell_21 : decode cX5_healCell 21 = .ok (.iconst 1, 1) := by decide +kernel
theorem dX5_healCell_22 : decode cX5_healCell 22 = .ok (.iload_n 2, 1) := by decide +kernel
theorem dX5_healCell_23 : decode cX5_healCell 23 = .ok (.ishl, 1) := by decide +kernel
theorem dX5_healCell_24 : decode cX5_healCell 24 = .ok (.iconst (-1), 1) := by decide +kernel
theorem dX5_healCell_25 : decode cX5_healCell 25 = .ok (.ixor, 1) := by decide +kernel
theorem dX5_healCell_26 : decode cX5_healCell 26 = .ok (.iand, 1) := by decide +kernel
theorem dX5_healCell_27 : decode cX5_healCell 27 = .ok (.iastore, 1) := by decide +kernel
theorem dX5_healCell_28 : decode cX5_healCell 28 = .ok (.return_, 1) := by decide +kernel
theorem dX5_failedCells_0 : decode cX5_failedCells 0 = .ok (.iconst 0, 1) := by decide +kernel
theorem dX5_failedCells_1 : decode cX5_failedCells 1 = .ok (.istore_n 1, 1) := by decide +kernel
theorem dX5_failedCells_2 : decode cX5_failedCells 2 = .ok (.iconst 0, 1) := by decide +kernel
theorem dX5_failedCells_3 : decode cX5_failedCells 3 = .ok (.istore_n 2, 1) := by decide +kernel
theorem dX5_failedCells_4 : decode cX5_failedCells 4 = .ok (.iload_n 2, 1) := by decide +kernel
theorem dX5_failedCells_5 : decode cX5_failedCells 5 = .ok (.bipush 7, 2) := by decide +kernel
theorem dX5_failedCells_7 : decode cX5_failedCells 7 = .ok (.if_icmp .ge 21, 3) := by decide +kernel
theorem dX5_failedCells_10 : decode cX5_failedCells 10 = .ok (.iload_n 1, 1) := by decide +kernel
theorem dX5_failedCells_11 : decode cX5_failedCells 11 = .ok (.aload_n 0, 1) := by decide +kernel
theorem dX5_failedCells_12 : decode cX5_failedCells 12 = .ok (.getfield 15, 3) := by decide +kernel
theorem dX5_failedCells_15 : decode cX5_failedCells 15 = .ok (.iload_n 2, 1) := by decide +kernel
theorem dX5_failedCells_16 : decode cX5_failedCells 16 = .ok (.iaload, 1) := by decide +kernel
theorem dX5_failedCells_17 : decode cX5_failedCells 17 = .ok (.invokestatic 54, 3) := by decide +kernel
theorem dX5_failedCells_20 : decode cX5_failedCells 20 = .ok (.iadd, 1) := by decide +kernel
theorem dX5_failedCells_21 : decode cX5_failedCells 21 = .ok (.istore_n 1, 1) := by decide +kernel
theorem dX5_failedCells_22 : decode cX5_failedCells 22 = .ok (.iinc 2 1, 3) := by decide +kernel
theorem dX5_failedCells_25 : decode cX5_failedCells 25 = .ok (.goto (-21), 3) := by decide +kernel
theorem dX5_failedCells_28 : decode cX5_failedCells 28 = .ok (.iload_n 1, 1) := by decide +kernel
theorem dX5_failedCells_29 : decode cX5_failedCells 29 = .ok (.ireturn, 1) := by decide +kernel
theorem dX5_nextValue_0 : decode cX5_nextValue 0 = .ok (.aload_n 0, 1) := by decide +kernel
theorem dX5_nextValue_1 : decode cX5_nextValue 1 = .ok (.getfield 9, 3) := by decide +kernel
theorem dX5_nextValue_4 : decode cX5_nextValue 4 = .ok (.iload_n 1, 1) := by decide +kernel
theorem dX5_nextValue_5 : decode cX5_nextValue 5 = .ok (.iaload, 1) := by decide +kernel
theorem dX5_nextValue_6 : decode cX5_nextValue 6 = .ok (.istore_n 3, 1) := by decide +kernel
theorem dX5_nextValue_7 : decode cX5_nextValue 7 = .ok (.iload_n 3, 1) := by decide +kernel
theorem dX5_nextValue_8 : decode cX5_nextValue 8 = .ok (.iload_n 2, 1) := by decide +kernel
theorem dX5_nextValue_9 : decode cX5_nextValue 9 = .ok (.if_icmp .ne 9, 3) := by decide +kernel
theorem dX5_nextValue_12 : decode cX5_nextValue 12 = .ok (.getstatic 24, 3) := by decide +kernel
theorem dX5_nextValue_15 : decode cX5_nextValue 15 = .ok (.iload_n 1, 1) := by decide +kernel
theorem dX5_nextValue_16 : decode cX5_nextValue 16 = .ok (.iaload, 1) := by decide +kernel
theorem dX5_nextValue_17 : decode cX5_nextValue 17 = .ok (.ireturn, 1) := by decide +kernel
theorem dX5_nextValue_18 : decode cX5_nextValue 18 = .ok (.iload_n 3, 1) := by decide +kernel
theorem dX5_nextValue_19 : decode cX5_nextValue 19 = .ok (.bipush 15, 2) := by decide +kernel
theorem dX5_nextValue_21 : decode cX5_nextValue 21 = .ok (.iand, 1) := by decide +kernel
theorem dX5_nextValue_22 : decode cX5_nextValue 22 = .ok (.bipush 9, 2) := by decide +kernel
theorem dX5_nextValue_24 : decode cX5_nextValue 24 = .ok (.if_icmp .ge 7, 3) := by decide +kernel
theorem dX5_nextValue_27 : decode cX5_nextValue 27 = .ok (.iload_n 3, 1) := by decide +kernel
theorem dX5_nextValue_28 : decode cX5_nextValue 28 = .ok (.iconst 1, 1) := by decide +kernel
theorem dX5_nextValue_29 : decode cX5_nextValue 29 = .ok (.iadd, 1) := by decide +kernel
theorem dX5_nextValue_30 : decode cX5_nextValue 30 = .ok (.ireturn, 1) := by decide +kernel
theorem dX5_nextValue_31 : decode cX5_nextValue 31 = .ok (.iload_n 3, 1) := by decide +kernel
theorem dX5_nextValue_32 : decode cX5_nextValue 32 = .ok (.sipush 240, 3) := by decide +kernel
theorem dX5_nextValue_35 : decode cX5_nextValue 35 = .ok (.iand, 1) := by decide +kernel
theorem dX5_nextValue_36 : decode cX5_nextValue 36 = .ok (.bipush 16, 2) := by decide +kernel
theorem dX5_nextValue_38 : decode cX5_nextValue 38 = .ok (.iadd, 1) := by decide +kernel
theorem dX5_nextValue_39 : decode cX5_nextValue 39 = .ok (.sipush 255, 3) := by decide +kernel
theorem dX5_nextValue_42 : decode cX5_nextValue 42 = .ok (.iand, 1) := by decide +kernel
theorem dX5_nextValue_43 : decode cX5_nextValue 43 = .ok (.ireturn, 1) := by decide +kernel
theorem dX5_stepOn_0 : decode cX5_stepOn 0 = .ok (.aload_n 0, 1) := by decide +kernel
theorem dX5_stepOn_1 : decode cX5_stepOn 1 = .ok (.getfield 9, 3) := by decide +kernel
theorem dX5_stepOn_4 : decode cX5_stepOn 4 = .ok (.iload_n 1, 1) := by decide +kernel
theorem dX5_stepOn_5 : decode cX5_stepOn 5 = .ok (.iaload, 1) := by decide +kernel
theorem dX5_stepOn_6 : decode cX5_stepOn 6 = .ok (.iload_n 2, 1) := by decide +kernel
theorem dX5_stepOn_7 : decode cX5_stepOn 7 = .ok (.if_icmp .ne 7, 3) := by decide +kernel
theorem dX5_stepOn_10 : decode cX5_stepOn 10 = .ok (.iconst 1, 1) := by decide +kernel
theorem dX5_stepOn_11 : decode cX5_stepOn 11 = .ok (.goto 4, 3) := by decide +kernel
theorem dX5_stepOn_14 : decode cX5_stepOn 14 = .ok (.iconst 0, 1) := by decide +kernel
theorem dX5_stepOn_15 : decode cX5_stepOn 15 = .ok (.istore_n 3, 1) := by decide +kernel
theorem dX5_stepOn_16 : decode cX5_stepOn 16 = .ok (.aload_n 0, 1) := by decide +kernel
theorem dX5_stepOn_17 : decode cX5_stepOn 17 = .ok (.getfield 9, 3) := by decide +kernel
theorem dX5_stepOn_20 : decode cX5_stepOn 20 = .ok (.iload_n 1, 1) := by decide +kernel
theorem dX5_stepOn_21 : decode cX5_stepOn 21 = .ok (.aload_n 0, 1) := by decide +kernel
theorem dX5_stepOn_22 : decode cX5_stepOn 22 = .ok (.iload_n 1, 1) := by decide +kernel
theorem dX5_stepOn_23 : decode cX5_stepOn 23 = .ok (.aload_n 0, 1) := by decide +kernel
theorem dX5_stepOn_24 : decode cX5_stepOn 24 = .ok (.iload_n 1, 1) := by decide +kernel
theorem dX5_stepOn_25 : decode cX5_stepOn 25 = .ok (.iload_n 2, 1) := by decide +kernel
theorem dX5_stepOn_26 : decode cX5_stepOn 26 = .ok (.invokevirtual 59, 3) := by decide +kernel
theorem dX5_stepOn_29 : decode cX5_stepOn 29 = .ok (.invokevirtual 51, 3) := by decide +kernel
theorem dX5_stepOn_32 : decode cX5_stepOn 32 = .ok (.iastore, 1) := by decide +kernel
theorem dX5_stepOn_33 : decode cX5_stepOn 33 = .ok (.iload_n 3, 1) := by decide +kernel
theorem dX5_stepOn_34 : decode cX5_stepOn 34 = .ok (.ifCond .eq 13, 3) := by decide +kernel
theorem dX5_stepOn_37 : decode cX5_stepOn 37 = .ok (.aload_n 0, 1) := by decide +kernel
theorem dX5_stepOn_38 : decode cX5_stepOn 38 = .ok (.getfield 21, 3) := by decide +kernel
theorem dX5_stepOn_41 : decode cX5_stepOn 41 = .ok (.iload_n 1, 1) := by decide +kernel
theorem dX5_stepOn_42 : decode cX5_stepOn 42 = .ok (.dup2, 1) := by decide +kernel
theorem dX5_stepOn_43 : decode cX5_stepOn 43 = .ok (.iaload, 1) := by decide +kernel
theorem dX5_stepOn_44 : decode cX5_stepOn 44 = .ok (.iconst 1, 1) := by decide +kernel
theorem dX5_stepOn_45 : decode cX5_stepOn 45 = .ok (.iadd, 1) := by decide +kernel
theorem dX5_stepOn_46 : decode cX5_stepOn 46 = .ok (.iastore, 1) := by decide +kernel
theorem dX5_stepOn_47 : decode cX5_stepOn 47 = .ok (.iload_n 3, 1) := by decide +kernel
theorem dX5_stepOn_48 : decode cX5_stepOn 48 = .ok (.ireturn, 1) := by decide +kernel
theorem dX5_tick_0 : decode cX5_tick 0 = .ok (.aload_n 0, 1) := by decide +kernel
theorem dX5_tick_1 : decode cX5_tick 1 = .ok (.iconst 0, 1) := by decide +kernel
theorem dX5_tick_2 : decode cX5_tick 2 = .ok (.aload_n 0, 1) := by decide +kernel
theorem dX5_tick_3 : decode cX5_tick 3 = .ok (.iconst 0, 1) := by decide +kernel
theorem dX5_tick_4 : decode cX5_tick 4 = .ok (.invokevirtual 40, 3) := by decide +kernel
theorem dX5_tick_7 : decode cX5_tick 7 = .ok (.invokevirtual 62, 3) := by decide +kernel
theorem dX5_tick_10 : decode cX5_tick 10 = .ok (.ifCond .eq 79, 3) := by decide +kernel
theorem dX5_tick_13 : decode cX5_tick 13 = .ok (.aload_n 0, 1) := by decide +kernel
theorem dX5_tick_14 : decode cX5_tick 14 = .ok (.iconst 1, 1) := by decide +kernel
theorem dX5_tick_15 : decode cX5_tick 15 = .ok (.aload_n 0, 1) := by decide +kernel
theorem dX5_tick_16 : decode cX5_tick 16 = .ok (.iconst 1, 1) := by decide +kernel
theorem dX5_tick_17 : decode cX5_tick 17 = .ok (.invokevirtual 40, 3) := by decide +kernel
theorem dX5_tick_20 : decode cX5_tick 20 = .ok (.invokevirtual 62, 3) := by decide +kernel
theorem dX5_tick_23 : decode cX5_tick 23 = .ok (.ifCond .eq 66, 3) := by decide +kernel
theorem dX5_tick_26 : decode cX5_tick 26 = .ok (.aload_n 0, 1) := by decide +kernel
theorem dX5_tick_27 : decode cX5_tick 27 = .ok (.iconst 2, 1) := by decide +kernel
theorem dX5_tick_28 : decode cX5_tick 28 = .ok (.aload_n 0, 1) := by decide +kernel
theorem dX5_tick_29 : decode cX5_tick 29 = .ok (.iconst 2, 1) := by decide +kernel
theorem dX5_tick_30 : decode cX5_tick 30 = .ok (.invokevirtual 40, 3) := by decide +kernel
theorem dX5_tick_33 : decode cX5_tick 33 = .ok (.invokevirtual 62, 3) := by decide +kernel
theorem dX5_tick_36 : decode cX5_tick 36 = .ok (.ifCond .eq 53, 3) := by decide +kernel
theorem dX5_tick_39 : decode cX5_tick 39 = .ok (.aload_n 0, 1) := by decide +kernel
theorem dX5_tick_40 : decode cX5_tick 40 = .ok (.iconst 3, 1) := by decide +kernel
theorem dX5_tick_41 : decode cX5_tick 41 = .ok (.aload_n 0, 1) := by decide +kernel
theorem dX5_tick_42 : decode cX5_tick 42 = .ok (.iconst 3, 1) := by decide +kernel
theorem dX5_tick_43 : decode cX5_tick 43 = .ok (.invokevirtual 40, 3) := by decide +kernel
theorem dX5_tick_46 : decode cX5_tick 46 = .ok (.invokevirtual 62, 3) := by decide +kernel
theorem dX5_tick_49 : decode cX5_tick 49 = .ok (.pop, 1) := by decide +kernel
theorem dX5_tick_50 : decode cX5_tick 50 = .ok (.aload_n 0, 1) := by decide +kernel
theorem dX5_tick_51 : decode cX5_tick 51 = .ok (.iconst 4, 1) := by decide +kernel
theorem dX5_tick_52 : decode cX5_tick 52 = .ok (.aload_n 0, 1) := by decide +kernel
theorem dX5_tick_53 : decode cX5_tick 53 = .ok (.iconst 4, 1) := by decide +kernel
theorem dX5_tick_54 : decode cX5_tick 54 = .ok (.invokevirtual 40, 3) := by decide +kernel
theorem dX5_tick_57 : decode cX5_tick 57 = .ok (.invokevirtual 62, 3) := by decide +kernel
theorem dX5_tick_60 : decode cX5_tick 60 = .ok (.ifCond .eq 29, 3) := by decide +kernel
theorem dX5_tick_63 : decode cX5_tick 63 = .ok (.aload_n 0, 1) := by decide +kernel
theorem dX5_tick_64 : decode cX5_tick 64 = .ok (.iconst 5, 1) := by decide +kernel
theorem dX5_tick_65 : decode cX5_tick 65 = .ok (.aload_n 0, 1) := by decide +kernel
theorem dX5_tick_66 : decode cX5_tick 66 = .ok (.iconst 5, 1) := by decide +kernel
theorem dX5_tick_67 : decode cX5_tick 67 = .ok (.invokevirtual 40, 3) := by decide +kernel
theorem dX5_tick_70 : decode cX5_tick 70 = .ok (.invokevirtual 62, 3) := by decide +kernel
theorem dX5_tick_73 : decode cX5_tick 73 = .ok (.ifCond .eq 16, 3) := by decide +kernel
theorem dX5_tick_76 : decode cX5_tick 76 = .ok (.aload_n 0, 1) := by decide +kernel
theorem dX5_tick_77 : decode cX5_tick 77 = .ok (.bipush 6, 2) := by decide +kernel
theorem dX5_tick_79 : decode cX5_tick 79 = .ok (.aload_n 0, 1) := by decide +kernel
theorem dX5_tick_80 : decode cX5_tick 80 = .ok (.bipush 6, 2) := by decide +kernel
theorem dX5_tick_82 : decode cX5_tick 82 = .ok (.invokevirtual 40, 3) := by decide +kernel
theorem dX5_tick_85 : decode cX5_tick 85 = .ok (.invokevirtual 62, 3) := by decide +kernel
theorem dX5_tick_88 : decode cX5_tick 88 = .ok (.pop, 1) := by decide +kernel
theorem dX5_tick_89 : decode cX5_tick 89 = .ok (.return_, 1) := by decide +kernel
theorem dX5_isDateRight_0 : decode cX5_isDateRight 0 = .ok (.aload_n 0, 1) := by decide +kernel
theorem dX5_isDateRight_1 : decode cX5_isDateRight 1 = .ok (.iconst 4, 1) := by decide +kernel
theorem dX5_isDateRight_2 : decode cX5_isDateRight 2 = .ok (.invokevirtual 44, 3) := by decide +kernel
theorem dX5_isDateRight_5 : decode cX5_isDateRight 5 = .ok (.ifCond .ne 24, 3) := by decide +kernel
theorem dX5_isDateRight_8 : decode cX5_isDateRight 8 = .ok (.aload_n 0, 1) := by decide +kernel
theorem dX5_isDateRight_9 : decode cX5_isDateRight 9 = .ok (.iconst 5, 1) := by decide +kernel
theorem dX5_isDateRight_10 : decode cX5_isDateRight 10 = .ok (.invokevirtual 44, 3) := by decide +kernel
theorem dX5_isDateRight_13 : decode cX5_isDateRight 13 = .ok (.ifCond .ne 16, 3) := by decide +kernel
theorem dX5_isDateRight_16 : decode cX5_isDateRight 16 = .ok (.aload_n 0, 1) := by decide +kernel
theorem dX5_isDateRight_17 : decode cX5_isDateRight 17 = .ok (.bipush 6, 2) := by decide +kernel
theorem dX5_isDateRight_19 : decode cX5_isDateRight 19 = .ok (.invokevirtual 44, 3) := by decide +kernel
theorem dX5_isDateRight_22 : decode cX5_isDateRight 22 = .ok (.ifCond .ne 7, 3) := by decide +kernel
theorem dX5_isDateRight_25 : decode cX5_isDateRight 25 = .ok (.iconst 1, 1) := by decide +kernel
theorem dX5_isDateRight_26 : decode cX5_isDateRight 26 = .ok (.goto 4, 3) := by decide +kernel
theorem dX5_isDateRight_29 : decode cX5_isDateRight 29 = .ok (.iconst 0, 1) := by decide +kernel
theorem dX5_isDateRight_30 : decode cX5_isDateRight 30 = .ok (.ireturn, 1) := by decide +kernel
theorem dX5_daysOfYear_0 : decode cX5_daysOfYear 0 = .ok (.aload_n 0, 1) := by decide +kernel
theorem dX5_daysOfYear_1 : decode cX5_daysOfYear 1 = .ok (.invokevirtual 36, 3) := by decide +kernel
theorem dX5_daysOfYear_4 : decode cX5_daysOfYear 4 = .ok (.ifCond .eq 9, 3) := by decide +kernel
theorem dX5_daysOfYear_7 : decode cX5_daysOfYear 7 = .ok (.sipush 366, 3) := by decide +kernel
theorem dX5_daysOfYear_10 : decode cX5_daysOfYear 10 = .ok (.goto 6, 3) := by decide +kernel
theorem dX5_daysOfYear_13 : decode cX5_daysOfYear 13 = .ok (.sipush 365, 3) := by decide +kernel
theorem dX5_daysOfYear_16 : decode cX5_daysOfYear 16 = .ok (.ireturn, 1) := by decide +kernel
theorem dX5_dayOfYear_0 : decode cX5_dayOfYear 0 = .ok (.aload_n 0, 1) := by decide +kernel
theorem dX5_dayOfYear_1 : decode cX5_dayOfYear 1 = .ok (.getfield 9, 3) := by decide +kernel
theorem dX5_dayOfYear_4 : decode cX5_dayOfYear 4 = .ok (.iconst 5, 1) := by decide +kernel
theorem dX5_dayOfYear_5 : decode cX5_dayOfYear 5 = .ok (.iaload, 1) := by decide +kernel
theorem dX5_dayOfYear_6 : decode cX5_dayOfYear 6 = .ok (.invokestatic 66, 3) := by decide +kernel
theorem dX5_dayOfYear_9 : decode cX5_dayOfYear 9 = .ok (.istore_n 1, 1) := by decide +kernel
theorem dX5_dayOfYear_10 : decode cX5_dayOfYear 10 = .ok (.iload_n 1, 1) := by decide +kernel
theorem dX5_dayOfYear_11 : decode cX5_dayOfYear 11 = .ok (.iconst 1, 1) := by decide +kernel
theorem dX5_dayOfYear_12 : decode cX5_dayOfYear 12 = .ok (.if_icmp .lt 11, 3) := by decide +kernel
theorem dX5_dayOfYear_15 : decode cX5_dayOfYear 15 = .ok (.iload_n 1, 1) := by decide +kernel
theorem dX5_dayOfYear_16 : decode cX5_dayOfYear 16 = .ok (.getstatic 69, 3) := by decide +kernel
theorem dX5_dayOfYear_19 : decode cX5_dayOfYear 19 = .ok (.arraylength, 1) := by decide +kernel
theorem dX5_dayOfYear_20 : decode cX5_dayOfYear 20 = .ok (.if_icmp .le 5, 3) := by decide +kernel
theorem dX5_dayOfYear_23 : decode cX5_dayOfYear 23 = .ok (.iconst 0, 1) := by decide +kernel
theorem dX5_dayOfYear_24 : decode cX5_dayOfYear 24 = .ok (.ireturn, 1) := by decide +kernel
theorem dX5_dayOfYear_25 : decode cX5_dayOfYear 25 = .ok (.iload_n 1, 1) := by decide +kernel
theorem dX5_dayOfYear_26 : decode cX5_dayOfYear 26 = .ok (.iconst 2, 1) := by decide +kernel
theorem dX5_dayOfYear_27 : decode cX5_dayOfYear 27 = .ok (.if_icmp .le 14, 3) := by decide +kernel
theorem dX5_dayOfYear_30 : decode cX5_dayOfYear 30 = .ok (.aload_n 0, 1) := by decide +kernel
theorem dX5_dayOfYear_31 : decode cX5_dayOfYear 31 = .ok (.invokevirtual 36, 3) := by decide +kernel
theorem dX5_dayOfYear_34 : decode cX5_dayOfYear 34 = .ok (.ifCond .eq 7, 3) := by decide +kernel
theorem dX5_dayOfYear_37 : decode cX5_dayOfYear 37 = .ok (.iconst 1, 1) := by decide +kernel
theorem dX5_dayOfYear_38 : decode cX5_dayOfYear 38 = .ok (.goto 4, 3) := by decide +kernel
theorem dX5_dayOfYear_41 : decode cX5_dayOfYear 41 = .ok (.iconst 0, 1) := by decide +kernel
theorem dX5_dayOfYear_42 : decode cX5_dayOfYear 42 = .ok (.istore_n 2, 1) := by decide +kernel
theorem dX5_dayOfYear_43 : decode cX5_dayOfYear 43 = .ok (.getstatic 69, 3) := by decide +kernel
theorem dX5_dayOfYear_46 : decode cX5_dayOfYear 46 = .ok (.iload_n 1, 1) := by decide +kernel
theorem dX5_dayOfYear_47 : decode cX5_dayOfYear 47 = .ok (.iconst 1, 1) := by decide +kernel
theorem dX5_dayOfYear_48 : decode cX5_dayOfYear 48 = .ok (.isub, 1) := by decide +kernel
theorem dX5_dayOfYear_49 : decode cX5_dayOfYear 49 = .ok (.iaload, 1) := by decide +kernel
theorem dX5_dayOfYear_50 : decode cX5_dayOfYear 50 = .ok (.iload_n 2, 1) := by decide +kernel
theorem dX5_dayOfYear_51 : decode cX5_dayOfYear 51 = .ok (.iadd, 1) := by decide +kernel
theorem dX5_dayOfYear_52 : decode cX5_dayOfYear 52 = .ok (.aload_n 0, 1) := by decide +kernel
theorem dX5_dayOfYear_53 : decode cX5_dayOfYear 53 = .ok (.getfield 9, 3) := by decide +kernel
theorem dX5_dayOfYear_56 : decode cX5_dayOfYear 56 = .ok (.iconst 4, 1) := by decide +kernel
theorem dX5_dayOfYear_57 : decode cX5_dayOfYear 57 = .ok (.iaload, 1) := by decide +kernel
theorem dX5_dayOfYear_58 : decode cX5_dayOfYear 58 = .ok (.invokestatic 66, 3) := by decide +kernel
theorem dX5_dayOfYear_61 : decode cX5_dayOfYear 61 = .ok (.iadd, 1) := by decide +kernel
theorem dX5_dayOfYear_62 : decode cX5_dayOfYear 62 = .ok (.iconst 1, 1) := by decide +kernel
theorem dX5_dayOfYear_63 : decode cX5_dayOfYear 63 = .ok (.isub, 1) := by decide +kernel
theorem dX5_dayOfYear_64 : decode cX5_dayOfYear 64 = .ok (.ireturn, 1) := by decide +kernel
theorem dX5_daysFromStart_0 : decode cX5_daysFromStart 0 = .ok (.aload_n 0, 1) := by decide +kernel
theorem dX5_daysFromStart_1 : decode cX5_daysFromStart 1 = .ok (.getfield 9, 3) := by decide +kernel
theorem dX5_daysFromStart_4 : decode cX5_daysFromStart 4 = .ok (.bipush 6, 2) := by decide +kernel
theorem dX5_daysFromStart_6 : decode cX5_daysFromStart 6 = .ok (.iaload, 1) := by decide +kernel
theorem dX5_daysFromStart_7 : decode cX5_daysFromStart 7 = .ok (.invokestatic 66, 3) := by decide +kernel
theorem dX5_daysFromStart_10 : decode cX5_daysFromStart 10 = .ok (.istore_n 1, 1) := by decide +kernel
theorem dX5_daysFromStart_11 : decode cX5_daysFromStart 11 = .ok (.iload_n 1, 1) := by decide +kernel
theorem dX5_daysFromStart_12 : decode cX5_daysFromStart 12 = .ok (.iconst 3, 1) := by decide +kernel
theorem dX5_daysFromStart_13 : decode cX5_daysFromStart 13 = .ok (.iadd, 1) := by decide +kernel
theorem dX5_daysFromStart_14 : decode cX5_daysFromStart 14 = .ok (.iconst 4, 1) := by decide +kernel
theorem dX5_daysFromStart_15 : decode cX5_daysFromStart 15 = .ok (.idiv, 1) := by decide +kernel
theorem dX5_daysFromStart_16 : decode cX5_daysFromStart 16 = .ok (.istore_n 2, 1) := by decide +kernel
theorem dX5_daysFromStart_17 : decode cX5_daysFromStart 17 = .ok (.sipush 365, 3) := by decide +kernel
theorem dX5_daysFromStart_20 : decode cX5_daysFromStart 20 = .ok (.iload_n 1, 1) := by decide +kernel
theorem dX5_daysFromStart_21 : decode cX5_daysFromStart 21 = .ok (.imul, 1) := by decide +kernel
theorem dX5_daysFromStart_22 : decode cX5_daysFromStart 22 = .ok (.iload_n 2, 1) := by decide +kernel
theorem dX5_daysFromStart_23 : decode cX5_daysFromStart 23 = .ok (.iadd, 1) := by decide +kernel
theorem dX5_daysFromStart_24 : decode cX5_daysFromStart 24 = .ok (.aload_n 0, 1) := by decide +kernel
theorem dX5_daysFromStart_25 : decode cX5_daysFromStart 25 = .ok (.invokevirtual 72, 3) := by decide +kernel
theorem dX5_daysFromStart_28 : decode cX5_daysFromStart 28 = .ok (.iadd, 1) := by decide +kernel
theorem dX5_daysFromStart_29 : decode cX5_daysFromStart 29 = .ok (.ireturn, 1) := by decide +kernel
theorem dX5_weekdayByDate_0 : decode cX5_weekdayByDate 0 = .ok (.aload_n 0, 1) := by decide +kernel
theorem dX5_weekdayByDate_1 : decode cX5_weekdayByDate 1 = .ok (.invokevirtual 76, 3) := by decide +kernel
theorem dX5_weekdayByDate_4 : decode cX5_weekdayByDate 4 = .ok (.bipush 6, 2) := by decide +kernel
theorem dX5_weekdayByDate_6 : decode cX5_weekdayByDate 6 = .ok (.iadd, 1) := by decide +kernel
theorem dX5_weekdayByDate_7 : decode cX5_weekdayByDate 7 = .ok (.iconst 1, 1) := by decide +kernel
theorem dX5_weekdayByDate_8 : decode cX5_weekdayByDate 8 = .ok (.isub, 1) := by decide +kernel
theorem dX5_weekdayByDate_9 : decode cX5_weekdayByDate 9 = .ok (.bipush 7, 2) := by decide +kernel
theorem dX5_weekdayByDate_11 : decode cX5_weekdayByDate 11 = .ok (.irem, 1) := by decide +kernel
theorem dX5_weekdayByDate_12 : decode cX5_weekdayByDate 12 = .ok (.iconst 1, 1) := by decide +kernel
theorem dX5_weekdayByDate_13 : decode cX5_weekdayByDate 13 = .ok (.iadd, 1) := by decide +kernel
theorem dX5_weekdayByDate_14 : decode cX5_weekdayByDate 14 = .ok (.ireturn, 1) := by decide +kernel
theorem dX6_init_0 : decode cX6_init 0 = .ok (.aload_n 0, 1) := by decide +kernel
theorem dX6_init_1 : decode cX6_init 1 = .ok (.invokespecial 1, 3) := by decide +kernel
theorem dX6_init_4 : decode cX6_init 4 = .ok (.aload_n 0, 1) := by decide +kernel
theorem dX6_init_5 : decode cX6_init 5 = .ok (.new 7, 3) := by decide +kernel
theorem dX6_init_8 : decode cX6_init 8 = .ok (.dup, 1) := by decide +kernel
theorem dX6_init_9 : decode cX6_init 9 = .ok (.invokespecial 9, 3) := by decide +kernel
theorem dX6_init_12 : decode cX6_init 12 = .ok (.putfield 10, 3) := by decide +kernel
theorem dX6_init_15 : decode cX6_init 15 = .ok (.aload_n 0, 1) := by decide +kernel
theorem dX6_init_16 : decode cX6_init 16 = .ok (.new 7, 3) := by decide +kernel
theorem dX6_init_19 : decode cX6_init 19 = .ok (.dup, 1) := by decide +kernel
theorem dX6_init_20 : decode cX6_init 20 = .ok (.invokespecial 9, 3) := by decide +kernel
theorem dX6_init_23 : decode cX6_init 23 = .ok (.putfield 16, 3) := by decide +kernel
theorem dX6_init_26 : decode cX6_init 26 = .ok (.aload_n 0, 1) := by decide +kernel
theorem dX6_init_27 : decode cX6_init 27 = .ok (.new 19, 3) := by decide +kernel
theorem dX6_init_30 : decode cX6_init 30 = .ok (.dup, 1) := by decide +kernel
theorem dX6_init_31 : decode cX6_init 31 = .ok (.invokespecial 21, 3) := by decide +kernel
theorem dX6_init_34 : decode cX6_init 34 = .ok (.putfield 22, 3) := by decide +kernel
theorem dX6_init_37 : decode cX6_init 37 = .ok (.aload_n 0, 1) := by decide +kernel
theorem dX6_init_38 : decode cX6_init 38 = .ok (.new 26, 3) := by decide +kernel
theorem dX6_init_41 : decode cX6_init 41 = .ok (.dup, 1) := by decide +kernel
theorem dX6_init_42 : decode cX6_init 42 = .ok (.invokespecial 28, 3) := by decide +kernel
theorem dX6_init_45 : decode cX6_init 45 = .ok (.putfield 29, 3) := by decide +kernel
theorem dX6_init_48 : decode cX6_init 48 = .ok (.aload_n 0, 1) := by decide +kernel
theorem dX6_init_49 : decode cX6_init 49 = .ok (.iconst 4, 1) := by decide +kernel
theorem dX6_init_50 : decode cX6_init 50 = .ok (.anewarray 7, 3) := by decide +kernel
theorem dX6_init_53 : decode cX6_init 53 = .ok (.putfield 33, 3) := by decide +kernel
theorem dX6_init_56 : decode cX6_init 56 = .ok (.aload_n 0, 1) := by decide +kernel
theorem dX6_init_57 : decode cX6_init 57 = .ok (.bipush 60, 2) := by decide +kernel
theorem dX6_init_59 : decode cX6_init 59 = .ok (.newarray .char, 2) := by decide +kernel
theorem dX6_init_61 : decode cX6_init 61 = .ok (.putfield 37, 3) := by decide +kernel
theorem dX6_init_64 : decode cX6_init 64 = .ok (.iconst 0, 1) := by decide +kernel
theorem dX6_init_65 : decode cX6_init 65 = .ok (.istore_n 1, 1) := by decide +kernel
theorem dX6_init_66 : decode cX6_init 66 = .ok (.iload_n 1, 1) := by decide +kernel
theorem dX6_init_67 : decode cX6_init 67 = .ok (.iconst 4, 1) := by decide +kernel
theorem dX6_init_68 : decode cX6_init 68 = .ok (.if_icmp .ge 22, 3) := by decide +kernel
theorem dX6_init_71 : decode cX6_init 71 = .ok (.aload_n 0, 1) := by decide +kernel
theorem dX6_init_72 : decode cX6_init 72 = .ok (.getfield 33, 3) := by decide +kernel
theorem dX6_init_75 : decode cX6_init 75 = .ok (.iload_n 1, 1) := by decide +kernel
theorem dX6_init_76 : decode cX6_init 76 = .ok (.new 7, 3) := by decide +kernel
theorem dX6_init_79 : decode cX6_init 79 = .ok (.dup, 1) := by decide +kernel
theorem dX6_init_80 : decode cX6_init 80 = .ok (.invokespecial 9, 3) := by decide +kernel
theorem dX6_init_83 : decode cX6_init 83 = .ok (.aastore, 1) := by decide +kernel
theorem dX6_init_84 : decode cX6_init 84 = .ok (.iinc 1 1, 3) := by decide +kernel
theorem dX6_init_87 : decode cX6_init 87 = .ok (.goto (-21), 3) := by decide +kernel
theorem dX6_init_90 : decode cX6_init 90 = .ok (.return_, 1) := by decide +kernel
theorem dX6_write_0 : decode cX6_write 0 = .ok (.iload_n 1, 1) := by decide +kernel
theorem dX6_write_1 : decode cX6_write 1 = .ok (.iload_n 2, 1) := by decide +kernel
theorem dX6_write_2 : decode cX6_write 2 = .ok (.invokestatic 41, 3) := by decide +kernel
theorem dX6_write_5 : decode cX6_write 5 = .ok (.ifCond .ne 6, 3) := by decide +kernel
theorem dX6_write_8 : decode cX6_write 8 = .ok (.ldc 45, 2) := by decide +kernel
theorem dX6_write_10 : decode cX6_write 10 = .ok (.ireturn, 1) := by decide +kernel
theorem dX6_write_11 : decode cX6_write 11 = .ok (.aload_n 0, 1) := by decide +kernel
theorem dX6_write_12 : decode cX6_write 12 = .ok (.invokevirtual 46, 3) := by decide +kernel
theorem dX6_write_15 : decode cX6_write 15 = .ok (.aload_n 0, 1) := by decide +kernel
theorem dX6_write_16 : decode cX6_write 16 = .ok (.getfield 10, 3) := by decide +kernel
theorem dX6_write_19 : decode cX6_write 19 = .ok (.iload_n 1, 1) := by decide +kernel
theorem dX6_write_20 : decode cX6_write 20 = .ok (.iload_n 2, 1) := by decide +kernel
theorem dX6_write_21 : decode cX6_write 21 = .ok (.invokevirtual 49, 3) := by decide +kernel
theorem dX6_write_24 : decode cX6_write 24 = .ok (.ireturn, 1) := by decide +kernel
theorem dX6_read_0 : decode cX6_read 0 = .ok (.iload_n 1, 1) := by decide +kernel
theorem dX6_read_1 : decode cX6_read 1 = .ok (.invokestatic 53, 3) := by decide +kernel
theorem dX6_read_4 : decode cX6_read 4 = .ok (.ifCond .ne 6, 3) := by decide +kernel
theorem dX6_read_7 : decode cX6_read 7 = .ok (.ldc 45, 2) := by decide +kernel
theorem dX6_read_9 : decode cX6_read 9 = .ok (.ireturn, 1) := by decide +kernel
theorem dX6_read_10 : decode cX6_read 10 = .ok (.aload_n 0, 1) := by decide +kernel
theorem dX6_read_11 : decode cX6_read 11 = .ok (.invokevirtual 46, 3) := by decide +kernel
theorem dX6_read_14 : decode cX6_read 14 = .ok (.aload_n 0, 1) := by decide +kernel
theorem dX6_read_15 : decode cX6_read 15 = .ok (.getfield 10, 3) := by decide +kernel
theorem dX6_read_18 : decode cX6_read 18 = .ok (.iload_n 1, 1) := by decide +kernel
theorem dX6_read_19 : decode cX6_read 19 = .ok (.invokevirtual 57, 3) := by decide +kernel
theorem dX6_read_22 : decode cX6_read 22 = .ok (.ireturn, 1) := by decide +kernel
theorem dX6_burst_0 : decode cX6_burst 0 = .ok (.iload_n 1, 1) := by decide +kernel
theorem dX6_burst_1 : decode cX6_burst 1 = .ok (.invokestatic 61, 3) := by decide +kernel
theorem dX6_burst_4 : decode cX6_burst 4 = .ok (.ifCond .ne 6, 3) := by decide +kernel
theorem dX6_burst_7 : decode cX6_burst 7 = .ok (.ldc 45, 2) := by decide +kernel
theorem dX6_burst_9 : decode cX6_burst 9 = .ok (.ireturn, 1) := by decide +kernel
theorem dX6_burst_10 : decode cX6_burst 10 = .ok (.aload_n 0, 1) := by decide +kernel
theorem dX6_burst_11 : decode cX6_burst 11 = .ok (.invokevirtual 46, 3) := by decide +kernel
theorem dX6_burst_14 : decode cX6_burst 14 = .ok (.aload_n 0, 1) := by decide +kernel
theorem dX6_burst_15 : decode cX6_burst 15 = .ok (.getfield 22, 3) := by decide +kernel
theorem dX6_burst_18 : decode cX6_burst 18 = .ok (.aload_n 0, 1) := by decide +kernel
theorem dX6_burst_19 : decode cX6_burst 19 = .ok (.getfield 10, 3) := by decide +kernel
theorem dX6_burst_22 : decode cX6_burst 22 = .ok (.iload_n 1, 1) := by decide +kernel
theorem dX6_burst_23 : decode cX6_burst 23 = .ok (.invokevirtual 64, 3) := by decide +kernel
theorem dX6_burst_26 : decode cX6_burst 26 = .ok (.aload_n 0, 1) := by decide +kernel
theorem dX6_burst_27 : decode cX6_burst 27 = .ok (.getfield 22, 3) := by decide +kernel
theorem dX6_burst_30 : decode cX6_burst 30 = .ok (.getfield 68, 3) := by decide +kernel
theorem dX6_burst_33 : decode cX6_burst 33 = .ok (.bipush 8, 2) := by decide +kernel
theorem dX6_burst_35 : decode cX6_burst 35 = .ok (.iaload, 1) := by decide +kernel
theorem dX6_burst_36 : decode cX6_burst 36 = .ok (.ireturn, 1) := by decide +kernel
theorem dX6_pass_0 : decode cX6_pass 0 = .ok (.iload_n 1, 1) := by decide +kernel
theorem dX6_pass_1 : decode cX6_pass 1 = .ok (.invokestatic 72, 3) := by decide +kernel
theorem dX6_pass_4 : decode cX6_pass 4 = .ok (.ifCond .ne 6, 3) := by decide +kernel
theorem dX6_pass_7 : decode cX6_pass 7 = .ok (.ldc 45, 2) := by decide +kernel
theorem dX6_pass_9 : decode cX6_pass 9 = .ok (.ireturn, 1) := by decide +kernel
theorem dX6_pass_10 : decode cX6_pass 10 = .ok (.aload_n 0, 1) := by decide +kernel
theorem dX6_pass_11 : decode cX6_pass 11 = .ok (.invokevirtual 46, 3) := by decide +kernel
theorem dX6_pass_14 : decode cX6_pass 14 = .ok (.aload_n 0, 1) := by decide +kernel
theorem dX6_pass_15 : decode cX6_pass 15 = .ok (.getfield 10, 3) := by decide +kernel
theorem dX6_pass_18 : decode cX6_pass 18 = .ok (.iload_n 1, 1) := by decide +kernel
theorem dX6_pass_19 : decode cX6_pass 19 = .ok (.invokevirtual 75, 3) := by decide +kernel
theorem dX6_pass_22 : decode cX6_pass 22 = .ok (.ireturn, 1) := by decide +kernel
theorem dX6_alarm_0 : decode cX6_alarm 0 = .ok (.iload_n 1, 1) := by decide +kernel
theorem dX6_alarm_1 : decode cX6_alarm 1 = .ok (.iload_n 2, 1) := by decide +kernel
theorem dX6_alarm_2 : decode cX6_alarm 2 = .ok (.iload_n 3, 1) := by decide +kernel
theorem dX6_alarm_3 : decode cX6_alarm 3 = .ok (.invokestatic 78, 3) := by decide +kernel
theorem dX6_alarm_6 : decode cX6_alarm 6 = .ok (.ifCond .ne 6, 3) := by decide +kernel
theorem dX6_alarm_9 : decode cX6_alarm 9 = .ok (.ldc 45, 2) := by decide +kernel
theorem dX6_alarm_11 : decode cX6_alarm 11 = .ok (.ireturn, 1) := by decide +kernel
theorem dX6_alarm_12 : decode cX6_alarm 12 = .ok (.aload_n 0, 1) := by decide +kernel
theorem dX6_alarm_13 : decode cX6_alarm 13 = .ok (.invokevirtual 46, 3) := by decide +kernel
theorem dX6_alarm_16 : decode cX6_alarm 16 = .ok (.aload_n 0, 1) := by decide +kernel
theorem dX6_alarm_17 : decode cX6_alarm 17 = .ok (.getfield 10, 3) := by decide +kernel
theorem dX6_alarm_20 : decode cX6_alarm 20 = .ok (.getfield 82, 3) := by decide +kernel
theorem dX6_alarm_23 : decode cX6_alarm 23 = .ok (.iload_n 1, 1) := by decide +kernel
theorem dX6_alarm_24 : decode cX6_alarm 24 = .ok (.iload_n 2, 1) := by decide +kernel
theorem dX6_alarm_25 : decode cX6_alarm 25 = .ok (.iload_n 3, 1) := by decide +kernel
theorem dX6_alarm_26 : decode cX6_alarm 26 = .ok (.invokevirtual 86, 3) := by decide +kernel
theorem dX6_alarm_29 : decode cX6_alarm 29 = .ok (.ireturn, 1) := by decide +kernel
theorem dX6_arm_0 : decode cX6_arm 0 = .ok (.iload_n 1, 1) := by decide +kernel
theorem dX6_arm_1 : decode cX6_arm 1 = .ok (.invokestatic 92, 3) := by decide +kernel
theorem dX6_arm_4 : decode cX6_arm 4 = .ok (.ifCond .eq 13, 3) := by decide +kernel
theorem dX6_arm_7 : decode cX6_arm 7 = .ok (.iload_n 2, 1) := by decide +kernel
theorem dX6_arm_8 : decode cX6_arm 8 = .ok (.iconst (-1), 1) := by decide +kernel
theorem dX6_arm_9 : decode cX6_arm 9 = .ok (.bipush 31, 2) := by decide +kernel
theorem dX6_arm_11 : decode cX6_arm 11 = .ok (.invokestatic 95, 3) := by decide +kernel
theorem dX6_arm_14 : decode cX6_arm 14 = .ok (.ifCond .ne 6, 3) := by decide +kernel
theorem dX6_arm_17 : decode cX6_arm 17 = .ok (.ldc 45, 2) := by decide +kernel
theorem dX6_arm_19 : decode cX6_arm 19 = .ok (.ireturn, 1) := by decide +kernel
theorem dX6_arm_20 : decode cX6_arm 20 = .ok (.aload_n 0, 1) := by decide +kernel
theorem dX6_arm_21 : decode cX6_arm 21 = .ok (.invokevirtual 46, 3) := by decide +kernel
theorem dX6_arm_24 : decode cX6_arm 24 = .ok (.aload_n 0, 1) := by decide +kernel
theorem dX6_arm_25 : decode cX6_arm 25 = .ok (.getfield 10, 3) := by decide +kernel
theorem dX6_arm_28 : decode cX6_arm 28 = .ok (.getfield 82, 3) := by decide +kernel
theorem dX6_arm_31 : decode cX6_arm 31 = .ok (.iload_n 1, 1) := by decide +kernel
theorem dX6_arm_32 : decode cX6_arm 32 = .ok (.iload_n 2, 1) := by decide +kernel
theorem dX6_arm_33 : decode cX6_arm 33 = .ok (.invokevirtual 98, 3) := by decide +kernel
theorem dX6_arm_36 : decode cX6_arm 36 = .ok (.ireturn, 1) := by decide +kernel
theorem dX6_clear_0 : decode cX6_clear 0 = .ok (.aload_n 0, 1) := by decide +kernel
theorem dX6_clear_1 : decode cX6_clear 1 = .ok (.invokevirtual 46, 3) := by decide +kernel
theorem dX6_clear_4 : decode cX6_clear 4 = .ok (.aload_n 0, 1) := by decide +kernel
theorem dX6_clear_5 : decode cX6_clear 5 = .ok (.getfield 10, 3) := by decide +kernel
theorem dX6_clear_8 : decode cX6_clear 8 = .ok (.getfield 82, 3) := by decide +kernel
theorem dX6_clear_11 : decode cX6_clear 11 = .ok (.getfield 101, 3) := by decide +kernel
theorem dX6_clear_14 : decode cX6_clear 14 = .ok (.istore_n 1, 1) := by decide +kernel
theorem dX6_clear_15 : decode cX6_clear 15 = .ok (.aload_n 0, 1) := by decide +kernel
theorem dX6_clear_16 : decode cX6_clear 16 = .ok (.getfield 10, 3) := by decide +kernel
theorem dX6_clear_19 : decode cX6_clear 19 = .ok (.getfield 82, 3) := by decide +kernel
theorem dX6_clear_22 : decode cX6_clear 22 = .ok (.iconst 0, 1) := by decide +kernel
theorem dX6_clear_23 : decode cX6_clear 23 = .ok (.putfield 101, 3) := by decide +kernel
theorem dX6_clear_26 : decode cX6_clear 26 = .ok (.iload_n 1, 1) := by decide +kernel
theorem dX6_clear_27 : decode cX6_clear 27 = .ok (.ireturn, 1) := by decide +kernel
theorem dX6_fail_0 : decode cX6_fail 0 = .ok (.iload_n 1, 1) := by decide +kernel
theorem dX6_fail_1 : decode cX6_fail 1 = .ok (.iload_n 2, 1) := by decide +kernel
theorem dX6_fail_2 : decode cX6_fail 2 = .ok (.invokestatic 105, 3) := by decide +kernel
theorem dX6_fail_5 : decode cX6_fail 5 = .ok (.ifCond .eq 12, 3) := by decide +kernel
theorem dX6_fail_8 : decode cX6_fail 8 = .ok (.iload_n 3, 1) := by decide +kernel
theorem dX6_fail_9 : decode cX6_fail 9 = .ok (.iconst 0, 1) := by decide +kernel
theorem dX6_fail_10 : decode cX6_fail 10 = .ok (.iconst 1, 1) := by decide +kernel
theorem dX6_fail_11 : decode cX6_fail 11 = .ok (.invokestatic 95, 3) := by decide +kernel
theorem dX6_fail_14 : decode cX6_fail 14 = .ok (.ifCond .ne 6, 3) := by decide +kernel
theorem dX6_fail_17 : decode cX6_fail 17 = .ok (.ldc 45, 2) := by decide +kernel
theorem dX6_fail_19 : decode cX6_fail 19 = .ok (.ireturn, 1) := by decide +kernel
theorem dX6_fail_20 : decode cX6_fail 20 = .ok (.aload_n 0, 1) := by decide +kernel
theorem dX6_fail_21 : decode cX6_fail 21 = .ok (.getfield 10, 3) := by decide +kernel
theorem dX6_fail_24 : decode cX6_fail 24 = .ok (.getfield 108, 3) := by decide +kernel
theorem dX6_fail_27 : decode cX6_fail 27 = .ok (.iload_n 1, 1) := by decide +kernel
theorem dX6_fail_28 : decode cX6_fail 28 = .ok (.iload_n 2, 1) := by decide +kernel
theorem dX6_fail_29 : decode cX6_fail 29 = .ok (.invokevirtual 112, 3) := by decide +kernel
theorem dX6_fail_32 : decode cX6_fail 32 = .ok (.ifCond .eq 6, 3) := by decide +kernel
theorem dX6_fail_35 : decode cX6_fail 35 = .ok (.ldc 117, 2) := by decide +kernel
theorem dX6_fail_37 : decode cX6_fail 37 = .ok (.ireturn, 1) := by decide +kernel
theorem dX6_fail_38 : decode cX6_fail 38 = .ok (.aload_n 0, 1) := by decide +kernel
theorem dX6_fail_39 : decode cX6_fail 39 = .ok (.invokevirtual 46, 3) := by decide +kernel
theorem dX6_fail_42 : decode cX6_fail 42 = .ok (.aload_n 0, 1) := by decide +kernel
theorem dX6_fail_43 : decode cX6_fail 43 = .ok (.getfield 10, 3) := by decide +kernel
theorem dX6_fail_46 : decode cX6_fail 46 = .ok (.getfield 108, 3) := by decide +kernel
theorem dX6_fail_49 : decode cX6_fail 49 = .ok (.iload_n 1, 1) := by decide +kernel
theorem dX6_fail_50 : decode cX6_fail 50 = .ok (.iload_n 2, 1) := by decide +kernel
theorem dX6_fail_51 : decode cX6_fail 51 = .ok (.iload_n 3, 1) := by decide +kernel
theorem dX6_fail_52 : decode cX6_fail 52 = .ok (.invokevirtual 118, 3) := by decide +kernel
theorem dX6_fail_55 : decode cX6_fail 55 = .ok (.ireturn, 1) := by decide +kernel
theorem dX6_heal_0 : decode cX6_heal 0 = .ok (.iload_n 1, 1) := by decide +kernel
theorem dX6_heal_1 : decode cX6_heal 1 = .ok (.iload_n 2, 1) := by decide +kernel
theorem dX6_heal_2 : decode cX6_heal 2 = .ok (.invokestatic 105, 3) := by decide +kernel
theorem dX6_heal_5 : decode cX6_heal 5 = .ok (.ifCond .ne 6, 3) := by decide +kernel
theorem dX6_heal_8 : decode cX6_heal 8 = .ok (.ldc 45, 2) := by decide +kernel
theorem dX6_heal_10 : decode cX6_heal 10 = .ok (.ireturn, 1) := by decide +kernel
theorem dX6_heal_11 : decode cX6_heal 11 = .ok (.aload_n 0, 1) := by decide +kernel
theorem dX6_heal_12 : decode cX6_heal 12 = .ok (.getfield 10, 3) := by decide +kernel
theorem dX6_heal_15 : decode cX6_heal 15 = .ok (.getfield 108, 3) := by decide +kernel
theorem dX6_heal_18 : decode cX6_heal 18 = .ok (.iload_n 1, 1) := by decide +kernel
theorem dX6_heal_19 : decode cX6_heal 19 = .ok (.iload_n 2, 1) := by decide +kernel
theorem dX6_heal_20 : decode cX6_heal 20 = .ok (.invokevirtual 112, 3) := by decide +kernel
theorem dX6_heal_23 : decode cX6_heal 23 = .ok (.ifCond .ne 6, 3) := by decide +kernel
theorem dX6_heal_26 : decode cX6_heal 26 = .ok (.ldc 117, 2) := by decide +kernel
theorem dX6_heal_28 : decode cX6_heal 28 = .ok (.ireturn, 1) := by decide +kernel
theorem dX6_heal_29 : decode cX6_heal 29 = .ok (.aload_n 0, 1) := by decide +kernel
theorem dX6_heal_30 : decode cX6_heal 30 = .ok (.invokevirtual 46, 3) := by decide +kernel
theorem dX6_heal_33 : decode cX6_heal 33 = .ok (.aload_n 0, 1) := by decide +kernel
theorem dX6_heal_34 : decode cX6_heal 34 = .ok (.getfield 10, 3) := by decide +kernel
theorem dX6_heal_37 : decode cX6_heal 37 = .ok (.getfield 108, 3) := by decide +kernel
theorem dX6_heal_40 : decode cX6_heal 40 = .ok (.iload_n 1, 1) := by decide +kernel
theorem dX6_heal_41 : decode cX6_heal 41 = .ok (.iload_n 2, 1) := by decide +kernel
theorem dX6_heal_42 : decode cX6_heal 42 = .ok (.invokevirtual 121, 3) := by decide +kernel
theorem dX6_heal_45 : decode cX6_heal 45 = .ok (.aload_n 0, 1) := by decide +kernel
theorem dX6_heal_46 : decode cX6_heal 46 = .ok (.getfield 10, 3) := by decide +kernel
theorem dX6_heal_49 : decode cX6_heal 49 = .ok (.getfield 108, 3) := by decide +kernel
theorem dX6_heal_52 : decode cX6_heal 52 = .ok (.invokevirtual 125, 3) := by decide +kernel
theorem dX6_heal_55 : decode cX6_heal 55 = .ok (.ireturn, 1) := by decide +kernel
theorem dX6_set_0 : decode cX6_set 0 = .ok (.iload_n 1, 1) := by decide +kernel
theorem dX6_set_1 : decode cX6_set 1 = .ok (.iconst 0, 1) := by decide +kernel
theorem dX6_set_2 : decode cX6_set 2 = .ok (.iconst 2, 1) := by decide +kernel
theorem dX6_set_3 : decode cX6_set 3 = .ok (.invokestatic 95, 3) := by decide +kernel
theorem dX6_set_6 : decode cX6_set 6 = .ok (.ifCond .eq 20, 3) := by decide +kernel
theorem dX6_set_9 : decode cX6_set 9 = .ok (.iload_n 2, 1) := by decide +kernel
theorem dX6_set_10 : decode cX6_set 10 = .ok (.getstatic 129, 3) := by decide +kernel
theorem dX6_set_13 : decode cX6_set 13 = .ok (.iload_n 1, 1) := by decide +kernel
theorem dX6_set_14 : decode cX6_set 14 = .ok (.iaload, 1) := by decide +kernel
theorem dX6_set_15 : decode cX6_set 15 = .ok (.getstatic 132, 3) := by decide +kernel
theorem dX6_set_18 : decode cX6_set 18 = .ok (.iload_n 1, 1) := by decide +kernel
theorem dX6_set_19 : decode cX6_set 19 = .ok (.iaload, 1) := by decide +kernel
theorem dX6_set_20 : decode cX6_set 20 = .ok (.invokestatic 95, 3) := by decide +kernel
theorem dX6_set_23 : decode cX6_set 23 = .ok (.ifCond .ne 6, 3) := by decide +kernel
theorem dX6_set_26 : decode cX6_set 26 = .ok (.ldc 45, 2) := by decide +kernel
theorem dX6_set_28 : decode cX6_set 28 = .ok (.ireturn, 1) := by decide +kernel
theorem dX6_set_29 : decode cX6_set 29 = .ok (.aload_n 0, 1) := by decide +kernel
theorem dX6_set_30 : decode cX6_set 30 = .ok (.invokevirtual 46, 3) := by decide +kernel
theorem dX6_set_33 : decode cX6_set 33 = .ok (.aload_n 0, 1) := by decide +kernel
theorem dX6_set_34 : decode cX6_set 34 = .ok (.getfield 10, 3) := by decide +kernel
theorem dX6_set_37 : decode cX6_set 37 = .ok (.iload_n 1, 1) := by decide +kernel
theorem dX6_set_38 : decode cX6_set 38 = .ok (.iload_n 2, 1) := by decide +kernel
theorem dX6_set_39 : decode cX6_set 39 = .ok (.invokevirtual 135, 3) := by decide +kernel
theorem dX6_set_42 : decode cX6_set 42 = .ok (.ireturn, 1) := by decide +kernel
theorem dX6_registerOf_0 : decode cX6_registerOf 0 = .ok (.iload_n 1, 1) := by decide +kernel
theorem dX6_registerOf_1 : decode cX6_registerOf 1 = .ok (.invokestatic 53, 3) := by decide +kernel
theorem dX6_registerOf_4 : decode cX6_registerOf 4 = .ok (.ifCond .eq 13, 3) := by decide +kernel
theorem dX6_registerOf_7 : decode cX6_registerOf 7 = .ok (.iload_n 2, 1) := by decide +kernel
theorem dX6_registerOf_8 : decode cX6_registerOf 8 = .ok (.iconst 0, 1) := by decide +kernel
theorem dX6_registerOf_9 : decode cX6_registerOf 9 = .ok (.bipush 6, 2) := by decide +kernel
theorem dX6_registerOf_11 : decode cX6_registerOf 11 = .ok (.invokestatic 95, 3) := by decide +kernel
theorem dX6_registerOf_14 : decode cX6_registerOf 14 = .ok (.ifCond .ne 6, 3) := by decide +kernel
theorem dX6_registerOf_17 : decode cX6_registerOf 17 = .ok (.ldc 45, 2) := by decide +kernel
theorem dX6_registerOf_19 : decode cX6_registerOf 19 = .ok (.ireturn, 1) := by decide +kernel
theorem dX6_registerOf_20 : decode cX6_registerOf 20 = .ok (.aload_n 0, 1) := by decide +kernel
theorem dX6_registerOf_21 : decode cX6_registerOf 21 = .ok (.getfield 10, 3) := by decide +kernel
theorem dX6_registerOf_24 : decode cX6_registerOf 24 = .ok (.getfield 108, 3) := by decide +kernel
theorem dX6_registerOf_27 : decode cX6_registerOf 27 = .ok (.astore_n 3, 1) := by decide +kernel
theorem dX6_registerOf_28 : decode cX6_registerOf 28 = .ok (.aload_n 3, 1) := by decide +kernel
theorem dX6_registerOf_29 : decode cX6_registerOf 29 = .ok (.iload_n 1, 1) := by decide +kernel
theorem dX6_registerOf_30 : decode cX6_registerOf 30 = .ok (.invokevirtual 138, 3) := by decide +kernel
theorem dX6_registerOf_33 : decode cX6_registerOf 33 = .ok (.istore 4, 2) := by decide +kernel
theorem dX6_registerOf_35 : decode cX6_registerOf 35 = .ok (.iload_n 2, 1) := by decide +kernel
theorem dX6_registerOf_36 : decode cX6_registerOf 36 = .ok (.tableswitch 83 0 5 #[40, 47, 57, 63, 69, 76], 40) := by decide +kernel
theorem dX6_registerOf_76 : decode cX6_registerOf 76 = .ok (.aload_n 3, 1) := by decide +kernel
theorem dX6_registerOf_77 : decode cX6_registerOf 77 = .ok (.getfield 141, 3) := by decide +kernel
theorem dX6_registerOf_80 : decode cX6_registerOf 80 = .ok (.iload_n 1, 1) := by decide +kernel
theorem dX6_registerOf_81 : decode cX6_registerOf 81 = .ok (.iaload, 1) := by decide +kernel
theorem dX6_registerOf_82 : decode cX6_registerOf 82 = .ok (.ireturn, 1) := by decide +kernel
theorem dX6_registerOf_83 : decode cX6_registerOf 83 = .ok (.aload_n 3, 1) := by decide +kernel
theorem dX6_registerOf_84 : decode cX6_registerOf 84 = .ok (.getfield 141, 3) := by decide +kernel
theorem dX6_registerOf_87 : decode cX6_registerOf 87 = .ok (.iload_n 1, 1) := by decide +kernel
theorem dX6_registerOf_88 : decode cX6_registerOf 88 = .ok (.iaload, 1) := by decide +kernel
theorem dX6_registerOf_89 : decode cX6_registerOf 89 = .ok (.invokestatic 144, 3) := by decide +kernel
theorem dX6_registerOf_92 : decode cX6_registerOf 92 = .ok (.ireturn, 1) := by decide +kernel
theorem dX6_registerOf_93 : decode cX6_registerOf 93 = .ok (.aload_n 3, 1) := by decide +kernel
theorem dX6_registerOf_94 : decode cX6_registerOf 94 = .ok (.iload_n 1, 1) := by decide +kernel
theorem dX6_registerOf_95 : decode cX6_registerOf 95 = .ok (.invokevirtual 147, 3) := by decide +kernel
theorem dX6_registerOf_98 : decode cX6_registerOf 98 = .ok (.ireturn, 1) := by decide +kernel
theorem dX6_registerOf_99 : decode cX6_registerOf 99 = .ok (.iload 4, 2) := by decide +kernel
theorem dX6_registerOf_101 : decode cX6_registerOf 101 = .ok (.invokestatic 144, 3) := by decide +kernel
theorem dX6_registerOf_104 : decode cX6_registerOf 104 = .ok (.ireturn, 1) := by decide +kernel
theorem dX6_registerOf_105 : decode cX6_registerOf 105 = .ok (.aload_n 3, 1) := by decide +kernel
theorem dX6_registerOf_106 : decode cX6_registerOf 106 = .ok (.getfield 150, 3) := by decide +kernel
theorem dX6_registerOf_109 : decode cX6_registerOf 109 = .ok (.iload_n 1, 1) := by decide +kernel
theorem dX6_registerOf_110 : decode cX6_registerOf 110 = .ok (.iaload, 1) := by decide +kernel
theorem dX6_registerOf_111 : decode cX6_registerOf 111 = .ok (.ireturn, 1) := by decide +kernel
theorem dX6_registerOf_112 : decode cX6_registerOf 112 = .ok (.aload_n 3, 1) := by decide +kernel
theorem dX6_registerOf_113 : decode cX6_registerOf 113 = .ok (.getfield 153, 3) := by decide +kernel
theorem dX6_registerOf_116 : decode cX6_registerOf 116 = .ok (.iload_n 1, 1) := by decide +kernel
theorem dX6_registerOf_117 : decode cX6_registerOf 117 = .ok (.iaload, 1) := by decide +kernel
theorem dX6_registerOf_118 : decode cX6_registerOf 118 = .ok (.ireturn, 1) := by decide +kernel
theorem dX6_registerOf_119 : decode cX6_registerOf 119 = .ok (.aload_n 3, 1) := by decide +kernel
theorem dX6_registerOf_120 : decode cX6_registerOf 120 = .ok (.iload_n 1, 1) := by decide +kernel
theorem dX6_registerOf_121 : decode cX6_registerOf 121 = .ok (.aload_n 3, 1) := by decide +kernel
theorem dX6_registerOf_122 : decode cX6_registerOf 122 = .ok (.iload_n 1, 1) := by decide +kernel
theorem dX6_registerOf_123 : decode cX6_registerOf 123 = .ok (.iload 4, 2) := by decide +kernel
theorem dX6_registerOf_125 : decode cX6_registerOf 125 = .ok (.invokevirtual 156, 3) := by decide +kernel
theorem dX6_registerOf_128 : decode cX6_registerOf 128 = .ok (.invokevirtual 159, 3) := by decide +kernel
theorem dX6_registerOf_131 : decode cX6_registerOf 131 = .ok (.ireturn, 1) := by decide +kernel
theorem dX6_alarmOf_0 : decode cX6_alarmOf 0 = .ok (.iload_n 1, 1) := by decide +kernel
theorem dX6_alarmOf_1 : decode cX6_alarmOf 1 = .ok (.invokestatic 92, 3) := by decide +kernel
theorem dX6_alarmOf_4 : decode cX6_alarmOf 4 = .ok (.ifCond .eq 13, 3) := by decide +kernel
theorem dX6_alarmOf_7 : decode cX6_alarmOf 7 = .ok (.iload_n 2, 1) := by decide +kernel
theorem dX6_alarmOf_8 : decode cX6_alarmOf 8 = .ok (.iconst 0, 1) := by decide +kernel
theorem dX6_alarmOf_9 : decode cX6_alarmOf 9 = .ok (.bipush 9, 2) := by decide +kernel
theorem dX6_alarmOf_11 : decode cX6_alarmOf 11 = .ok (.invokestatic 95, 3) := by decide +kernel
theorem dX6_alarmOf_14 : decode cX6_alarmOf 14 = .ok (.ifCond .ne 6, 3) := by decide +kernel
theorem dX6_alarmOf_17 : decode cX6_alarmOf 17 = .ok (.ldc 45, 2) := by decide +kernel
theorem dX6_alarmOf_19 : decode cX6_alarmOf 19 = .ok (.ireturn, 1) := by decide +kernel
theorem dX6_alarmOf_20 : decode cX6_alarmOf 20 = .ok (.aload_n 0, 1) := by decide +kernel
theorem dX6_alarmOf_21 : decode cX6_alarmOf 21 = .ok (.getfield 10, 3) := by decide +kernel
theorem dX6_alarmOf_24 : decode cX6_alarmOf 24 = .ok (.getfield 82, 3) := by decide +kernel
theorem dX6_alarmOf_27 : decode cX6_alarmOf 27 = .ok (.astore_n 3, 1) := by decide +kernel
theorem dX6_alarmOf_28 : decode cX6_alarmOf 28 = .ok (.iload_n 2, 1) := by decide +kernel
theorem dX6_alarmOf_29 : decode cX6_alarmOf 29 = .ok (.iconst 5, 1) := by decide +kernel
theorem dX6_alarmOf_30 : decode cX6_alarmOf 30 = .ok (.if_icmp .ge 12, 3) := by decide +kernel
theorem dX6_alarmOf_33 : decode cX6_alarmOf 33 = .ok (.aload_n 3, 1) := by decide +kernel
theorem dX6_alarmOf_34 : decode cX6_alarmOf 34 = .ok (.getfield 162, 3) := by decide +kernel
theorem dX6_alarmOf_37 : decode cX6_alarmOf 37 = .ok (.iload_n 1, 1) := by decide +kernel
theorem dX6_alarmOf_38 : decode cX6_alarmOf 38 = .ok (.aaload, 1) := by decide +kernel
theorem dX6_alarmOf_39 : decode cX6_alarmOf 39 = .ok (.iload_n 2, 1) := by decide +kernel
theorem dX6_alarmOf_40 : decode cX6_alarmOf 40 = .ok (.iaload, 1) := by decide +kernel
theorem dX6_alarmOf_41 : decode cX6_alarmOf 41 = .ok (.ireturn, 1) := by decide +kernel
theorem dX6_alarmOf_42 : decode cX6_alarmOf 42 = .ok (.iload_n 2, 1) := by decide +kernel
theorem dX6_alarmOf_43 : decode cX6_alarmOf 43 = .ok (.tableswitch 61 5 8 #[29, 36, 45, 54], 29) := by decide +kernel
theorem dX6_alarmOf_72 : decode cX6_alarmOf 72 = .ok (.aload_n 3, 1) := by decide +kernel
theorem dX6_alarmOf_73 : decode cX6_alarmOf 73 = .ok (.getfield 165, 3) := by decide +kernel
theorem dX6_alarmOf_76 : decode cX6_alarmOf 76 = .ok (.iload_n 1, 1) := by decide +kernel
theorem dX6_alarmOf_77 : decode cX6_alarmOf 77 = .ok (.iaload, 1) := by decide +kernel
theorem dX6_alarmOf_78 : decode cX6_alarmOf 78 = .ok (.ireturn, 1) := by decide +kernel
theorem dX6_alarmOf_79 : decode cX6_alarmOf 79 = .ok (.aload_n 3, 1) := by decide +kernel
theorem dX6_alarmOf_80 : decode cX6_alarmOf 80 = .ok (.getfield 168, 3) := by decide +kernel
theorem dX6_alarmOf_83 : decode cX6_alarmOf 83 = .ok (.iload_n 1, 1) := by decide +kernel
theorem dX6_alarmOf_84 : decode cX6_alarmOf 84 = .ok (.invokestatic 171, 3) := by decide +kernel
theorem dX6_alarmOf_87 : decode cX6_alarmOf 87 = .ok (.ireturn, 1) := by decide +kernel
theorem dX6_alarmOf_88 : decode cX6_alarmOf 88 = .ok (.aload_n 3, 1) := by decide +kernel
theorem dX6_alarmOf_89 : decode cX6_alarmOf 89 = .ok (.getfield 101, 3) := by decide +kernel
theorem dX6_alarmOf_92 : decode cX6_alarmOf 92 = .ok (.iload_n 1, 1) := by decide +kernel
theorem dX6_alarmOf_93 : decode cX6_alarmOf 93 = .ok (.invokestatic 171, 3) := by decide +kernel
theorem dX6_alarmOf_96 : decode cX6_alarmOf 96 = .ok (.ireturn, 1) := by decide +kernel
theorem dX6_alarmOf_97 : decode cX6_alarmOf 97 = .ok (.aload_n 3, 1) := by decide +kernel
theorem dX6_alarmOf_98 : decode cX6_alarmOf 98 = .ok (.getfield 174, 3) := by decide +kernel
theorem dX6_alarmOf_101 : decode cX6_alarmOf 101 = .ok (.iload_n 1, 1) := by decide +kernel
theorem dX6_alarmOf_102 : decode cX6_alarmOf 102 = .ok (.iaload, 1) := by decide +kernel
theorem dX6_alarmOf_103 : decode cX6_alarmOf 103 = .ok (.ireturn, 1) := by decide +kernel
theorem dX6_alarmOf_104 : decode cX6_alarmOf 104 = .ok (.aload_n 3, 1) := by decide +kernel
theorem dX6_alarmOf_105 : decode cX6_alarmOf 105 = .ok (.iload_n 1, 1) := by decide +kernel
theorem dX6_alarmOf_106 : decode cX6_alarmOf 106 = .ok (.aload_n 0, 1) := by decide +kernel
theorem dX6_alarmOf_107 : decode cX6_alarmOf 107 = .ok (.getfield 10, 3) := by decide +kernel
theorem dX6_alarmOf_110 : decode cX6_alarmOf 110 = .ok (.getfield 108, 3) := by decide +kernel
theorem dX6_alarmOf_113 : decode cX6_alarmOf 113 = .ok (.invokevirtual 177, 3) := by decide +kernel
theorem dX6_alarmOf_116 : decode cX6_alarmOf 116 = .ok (.ifCond .eq 7, 3) := by decide +kernel
theorem dX6_alarmOf_119 : decode cX6_alarmOf 119 = .ok (.iconst 1, 1) := by decide +kernel
theorem dX6_alarmOf_120 : decode cX6_alarmOf 120 = .ok (.goto 4, 3) := by decide +kernel
theorem dX6_alarmOf_123 : decode cX6_alarmOf 123 = .ok (.iconst 0, 1) := by decide +kernel
theorem dX6_alarmOf_124 : decode cX6_alarmOf 124 = .ok (.ireturn, 1) := by decide +kernel
theorem dX6_date_0 : decode cX6_date 0 = .ok (.iload_n 1, 1) := by decide +kernel
theorem dX6_date_1 : decode cX6_date 1 = .ok (.iconst 0, 1) := by decide +kernel
theorem dX6_date_2 : decode cX6_date 2 = .ok (.iconst 4, 1) := by decide +kernel
theorem dX6_date_3 : decode cX6_date 3 = .ok (.invokestatic 95, 3) := by decide +kernel
theorem dX6_date_6 : decode cX6_date 6 = .ok (.ifCond .ne 6, 3) := by decide +kernel
theorem dX6_date_9 : decode cX6_date 9 = .ok (.ldc 45, 2) := by decide +kernel
theorem dX6_date_11 : decode cX6_date 11 = .ok (.ireturn, 1) := by decide +kernel
theorem dX6_date_12 : decode cX6_date 12 = .ok (.aload_n 0, 1) := by decide +kernel
theorem dX6_date_13 : decode cX6_date 13 = .ok (.getfield 10, 3) := by decide +kernel
theorem dX6_date_16 : decode cX6_date 16 = .ok (.getfield 108, 3) := by decide +kernel
theorem dX6_date_19 : decode cX6_date 19 = .ok (.astore_n 2, 1) := by decide +kernel
theorem dX6_date_20 : decode cX6_date 20 = .ok (.iload_n 1, 1) := by decide +kernel
theorem dX6_date_21 : decode cX6_date 21 = .ok (.iconst 3, 1) := by decide +kernel
theorem dX6_date_22 : decode cX6_date 22 = .ok (.if_icmp .ne 12, 3) := by decide +kernel
theorem dX6_date_25 : decode cX6_date 25 = .ok (.aload_n 2, 1) := by decide +kernel
theorem dX6_date_26 : decode cX6_date 26 = .ok (.iconst 4, 1) := by decide +kernel
theorem dX6_date_27 : decode cX6_date 27 = .ok (.invokevirtual 138, 3) := by decide +kernel
theorem dX6_date_30 : decode cX6_date 30 = .ok (.invokestatic 144, 3) := by decide +kernel
theorem dX6_date_33 : decode cX6_date 33 = .ok (.ireturn, 1) := by decide +kernel
theorem dX6_date_34 : decode cX6_date 34 = .ok (.aload_n 2, 1) := by decide +kernel
theorem dX6_date_35 : decode cX6_date 35 = .ok (.invokevirtual 181, 3) := by decide +kernel
theorem dX6_date_38 : decode cX6_date 38 = .ok (.ifCond .ne 6, 3) := by decide +kernel
theorem dX6_date_41 : decode cX6_date 41 = .ok (.ldc 185, 2) := by decide +kernel
theorem dX6_date_43 : decode cX6_date 43 = .ok (.ireturn, 1) := by decide +kernel
theorem dX6_date_44 : decode cX6_date 44 = .ok (.iload_n 1, 1) := by decide +kernel
theorem dX6_date_45 : decode cX6_date 45 = .ok (.tableswitch 59 0 2 #[27, 32, 37], 27) := by decide +kernel
theorem dX6_date_72 : decode cX6_date 72 = .ok (.aload_n 2, 1) := by decide +kernel
theorem dX6_date_73 : decode cX6_date 73 = .ok (.invokevirtual 186, 3) := by decide +kernel
theorem dX6_date_76 : decode cX6_date 76 = .ok (.ireturn, 1) := by decide +kernel
theorem dX6_date_77 : decode cX6_date 77 = .ok (.aload_n 2, 1) := by decide +kernel
theorem dX6_date_78 : decode cX6_date 78 = .ok (.invokevirtual 189, 3) := by decide +kernel
theorem dX6_date_81 : decode cX6_date 81 = .ok (.ireturn, 1) := by decide +kernel
theorem dX6_date_82 : decode cX6_date 82 = .ok (.aload_n 2, 1) := by decide +kernel
theorem dX6_date_83 : decode cX6_date 83 = .ok (.getfield 141, 3) := by decide +kernel
theorem dX6_date_86 : decode cX6_date 86 = .ok (.iconst 3, 1) := by decide +kernel
theorem dX6_date_87 : decode cX6_date 87 = .ok (.iaload, 1) := by decide +kernel
theorem dX6_date_88 : decode cX6_date 88 = .ok (.invokestatic 144, 3) := by decide +kernel
theorem dX6_date_91 : decode cX6_date 91 = .ok (.aload_n 2, 1) := by decide +kernel
theorem dX6_date_92 : decode cX6_date 92 = .ok (.invokevirtual 189, 3) := by decide +kernel
theorem dX6_date_95 : decode cX6_date 95 = .ok (.if_icmp .ne 7, 3) := by decide +kernel
theorem dX6_date_98 : decode cX6_date 98 = .ok (.iconst 1, 1) := by decide +kernel
theorem dX6_date_99 : decode cX6_date 99 = .ok (.goto 4, 3) := by decide +kernel
theorem dX6_date_102 : decode cX6_date 102 = .ok (.iconst 0, 1) := by decide +kernel
theorem dX6_date_103 : decode cX6_date 103 = .ok (.ireturn, 1) := by decide +kernel
theorem dX6_date_104 : decode cX6_date 104 = .ok (.aload_n 2, 1) := by decide +kernel
theorem dX6_date_105 : decode cX6_date 105 = .ok (.invokevirtual 192, 3) := by decide +kernel
theorem dX6_date_108 : decode cX6_date 108 = .ok (.iconst 1, 1) := by decide +kernel
theorem dX6_date_109 : decode cX6_date 109 = .ok (.isub, 1) := by decide +kernel
theorem dX6_date_110 : decode cX6_date 110 = .ok (.aload_n 2, 1) := by decide +kernel
theorem dX6_date_111 : decode cX6_date 111 = .ok (.invokevirtual 195, 3) := by decide +kernel
theorem dX6_date_114 : decode cX6_date 114 = .ok (.isub, 1) := by decide +kernel
theorem dX6_date_115 : decode cX6_date 115 = .ok (.ireturn, 1) := by decide +kernel
theorem dX6_log_0 : decode cX6_log 0 = .ok (.iload_n 1, 1) := by decide +kernel
theorem dX6_log_1 : decode cX6_log 1 = .ok (.ifCond .lt 13, 3) := by decide +kernel
theorem dX6_log_4 : decode cX6_log 4 = .ok (.iload_n 2, 1) := by decide +kernel
theorem dX6_log_5 : decode cX6_log 5 = .ok (.iconst 0, 1) := by decide +kernel
theorem dX6_log_6 : decode cX6_log 6 = .ok (.bipush 9, 2) := by decide +kernel
theorem dX6_log_8 : decode cX6_log 8 = .ok (.invokestatic 95, 3) := by decide +kernel
theorem dX6_log_11 : decode cX6_log 11 = .ok (.ifCond .ne 6, 3) := by decide +kernel
theorem dX6_log_14 : decode cX6_log 14 = .ok (.ldc 45, 2) := by decide +kernel
theorem dX6_log_16 : decode cX6_log 16 = .ok (.ireturn, 1) := by decide +kernel
theorem dX6_log_17 : decode cX6_log 17 = .ok (.iload_n 1, 1) := by decide +kernel
theorem dX6_log_18 : decode cX6_log 18 = .ok (.aload_n 0, 1) := by decide +kernel
theorem dX6_log_19 : decode cX6_log 19 = .ok (.getfield 10, 3) := by decide +kernel
theorem dX6_log_22 : decode cX6_log 22 = .ok (.getfield 198, 3) := by decide +kernel
theorem dX6_log_25 : decode cX6_log 25 = .ok (.getfield 202, 3) := by decide +kernel
theorem dX6_log_28 : decode cX6_log 28 = .ok (.if_icmp .lt 6, 3) := by decide +kernel
theorem dX6_log_31 : decode cX6_log 31 = .ok (.ldc 185, 2) := by decide +kernel
theorem dX6_log_33 : decode cX6_log 33 = .ok (.ireturn, 1) := by decide +kernel
theorem dX6_log_34 : decode cX6_log 34 = .ok (.aload_n 0, 1) := by decide +kernel
theorem dX6_log_35 : decode cX6_log 35 = .ok (.getfield 10, 3) := by decide +kernel
theorem dX6_log_38 : decode cX6_log 38 = .ok (.getfield 198, 3) := by decide +kernel
theorem dX6_log_41 : decode cX6_log 41 = .ok (.iload_n 1, 1) := by decide +kernel
theorem dX6_log_42 : decode cX6_log 42 = .ok (.iload_n 2, 1) := by decide +kernel
theorem dX6_log_43 : decode cX6_log 43 = .ok (.invokevirtual 207, 3) := by decide +kernel
theorem dX6_log_46 : decode cX6_log 46 = .ok (.ireturn, 1) := by decide +kernel
theorem dX6_readable_0 : decode cX6_readable 0 = .ok (.aload_n 0, 1) := by decide +kernel
theorem dX6_readable_1 : decode cX6_readable 1 = .ok (.getfield 10, 3) := by decide +kernel
theorem dX6_readable_4 : decode cX6_readable 4 = .ok (.getfield 210, 3) := by decide +kernel
theorem dX6_readable_7 : decode cX6_readable 7 = .ok (.iconst 2, 1) := by decide +kernel
theorem dX6_readable_8 : decode cX6_readable 8 = .ok (.iaload, 1) := by decide +kernel
theorem dX6_readable_9 : decode cX6_readable 9 = .ok (.aload_n 0, 1) := by decide +kernel
theorem dX6_readable_10 : decode cX6_readable 10 = .ok (.getfield 10, 3) := by decide +kernel
theorem dX6_readable_13 : decode cX6_readable 13 = .ok (.getfield 213, 3) := by decide +kernel
theorem dX6_readable_16 : decode cX6_readable 16 = .ok (.isub, 1) := by decide +kernel
theorem dX6_readable_17 : decode cX6_readable 17 = .ok (.istore_n 1, 1) := by decide +kernel
theorem dX6_readable_18 : decode cX6_readable 18 = .ok (.iconst 1, 1) := by decide +kernel
theorem dX6_readable_19 : decode cX6_readable 19 = .ok (.istore_n 2, 1) := by decide +kernel
theorem dX6_readable_20 : decode cX6_readable 20 = .ok (.iload_n 2, 1) := by decide +kernel
theorem dX6_readable_21 : decode cX6_readable 21 = .ok (.bipush 7, 2) := by decide +kernel
theorem dX6_readable_23 : decode cX6_readable 23 = .ok (.if_icmp .ge 24, 3) := by decide +kernel
theorem dX6_readable_26 : decode cX6_readable 26 = .ok (.iload_n 2, 1) := by decide +kernel
theorem dX6_readable_27 : decode cX6_readable 27 = .ok (.aload_n 0, 1) := by decide +kernel
theorem dX6_readable_28 : decode cX6_readable 28 = .ok (.getfield 10, 3) := by decide +kernel
theorem dX6_readable_31 : decode cX6_readable 31 = .ok (.getfield 210, 3) := by decide +kernel
theorem dX6_readable_34 : decode cX6_readable 34 = .ok (.iconst 0, 1) := by decide +kernel
theorem dX6_readable_35 : decode cX6_readable 35 = .ok (.iaload, 1) := by decide +kernel
theorem dX6_readable_36 : decode cX6_readable 36 = .ok (.imul, 1) := by decide +kernel
theorem dX6_readable_37 : decode cX6_readable 37 = .ok (.iload_n 1, 1) := by decide +kernel
theorem dX6_readable_38 : decode cX6_readable 38 = .ok (.if_icmp .ge 9, 3) := by decide +kernel
theorem dX6_readable_41 : decode cX6_readable 41 = .ok (.iinc 2 1, 3) := by decide +kernel
theorem dX6_readable_44 : decode cX6_readable 44 = .ok (.goto (-24), 3) := by decide +kernel
theorem dX6_readable_47 : decode cX6_readable 47 = .ok (.iload_n 2, 1) := by decide +kernel
theorem dX6_readable_48 : decode cX6_readable 48 = .ok (.ireturn, 1) := by decide +kernel
theorem dX6_safeIn_0 : decode cX6_safeIn 0 = .ok (.aload_n 0, 1) := by decide +kernel
theorem dX6_safeIn_1 : decode cX6_safeIn 1 = .ok (.getfield 10, 3) := by decide +kernel
theorem dX6_safeIn_4 : decode cX6_safeIn 4 = .ok (.getfield 210, 3) := by decide +kernel
theorem dX6_safeIn_7 : decode cX6_safeIn 7 = .ok (.iconst 2, 1) := by decide +kernel
theorem dX6_safeIn_8 : decode cX6_safeIn 8 = .ok (.iaload, 1) := by decide +kernel
theorem dX6_safeIn_9 : decode cX6_safeIn 9 = .ok (.istore_n 1, 1) := by decide +kernel
theorem dX6_safeIn_10 : decode cX6_safeIn 10 = .ok (.bipush 6, 2) := by decide +kernel
theorem dX6_safeIn_12 : decode cX6_safeIn 12 = .ok (.aload_n 0, 1) := by decide +kernel
theorem dX6_safeIn_13 : decode cX6_safeIn 13 = .ok (.getfield 10, 3) := by decide +kernel
theorem dX6_safeIn_16 : decode cX6_safeIn 16 = .ok (.getfield 210, 3) := by decide +kernel
theorem dX6_safeIn_19 : decode cX6_safeIn 19 = .ok (.iconst 0, 1) := by decide +kernel
theorem dX6_safeIn_20 : decode cX6_safeIn 20 = .ok (.iaload, 1) := by decide +kernel
theorem dX6_safeIn_21 : decode cX6_safeIn 21 = .ok (.imul, 1) := by decide +kernel
theorem dX6_safeIn_22 : decode cX6_safeIn 22 = .ok (.istore_n 2, 1) := by decide +kernel
theorem dX6_safeIn_23 : decode cX6_safeIn 23 = .ok (.aload_n 0, 1) := by decide +kernel
theorem dX6_safeIn_24 : decode cX6_safeIn 24 = .ok (.getfield 10, 3) := by decide +kernel
theorem dX6_safeIn_27 : decode cX6_safeIn 27 = .ok (.getfield 213, 3) := by decide +kernel
theorem dX6_safeIn_30 : decode cX6_safeIn 30 = .ok (.iload_n 2, 1) := by decide +kernel
theorem dX6_safeIn_31 : decode cX6_safeIn 31 = .ok (.iadd, 1) := by decide +kernel
theorem dX6_safeIn_32 : decode cX6_safeIn 32 = .ok (.iload_n 1, 1) := by decide +kernel
theorem dX6_safeIn_33 : decode cX6_safeIn 33 = .ok (.if_icmp .ge 5, 3) := by decide +kernel
theorem dX6_safeIn_36 : decode cX6_safeIn 36 = .ok (.iconst 0, 1) := by decide +kernel
theorem dX6_safeIn_37 : decode cX6_safeIn 37 = .ok (.ireturn, 1) := by decide +kernel
theorem dX6_safeIn_38 : decode cX6_safeIn 38 = .ok (.iload_n 2, 1) := by decide +kernel
theorem dX6_safeIn_39 : decode cX6_safeIn 39 = .ok (.iload_n 1, 1) := by decide +kernel
theorem dX6_safeIn_40 : decode cX6_safeIn 40 = .ok (.if_icmp .ge 15, 3) := by decide +kernel
theorem dX6_safeIn_43 : decode cX6_safeIn 43 = .ok (.iload_n 1, 1) := by decide +kernel
theorem dX6_safeIn_44 : decode cX6_safeIn 44 = .ok (.aload_n 0, 1) := by decide +kernel
theorem dX6_safeIn_45 : decode cX6_safeIn 45 = .ok (.getfield 10, 3) := by decide +kernel
theorem dX6_safeIn_48 : decode cX6_safeIn 48 = .ok (.getfield 213, 3) := by decide +kernel
theorem dX6_safeIn_51 : decode cX6_safeIn 51 = .ok (.isub, 1) := by decide +kernel
theorem dX6_safeIn_52 : decode cX6_safeIn 52 = .ok (.goto 5, 3) := by decide +kernel
theorem dX6_safeIn_55 : decode cX6_safeIn 55 = .ok (.ldc 185, 2) := by decide +kernel
theorem dX6_safeIn_57 : decode cX6_safeIn 57 = .ok (.ireturn, 1) := by decide +kernel
theorem dX6_ifBurst_0 : decode cX6_ifBurst 0 = .ok (.iload_n 1, 1) := by decide +kernel
theorem dX6_ifBurst_1 : decode cX6_ifBurst 1 = .ok (.invokestatic 61, 3) := by decide +kernel
theorem dX6_ifBurst_4 : decode cX6_ifBurst 4 = .ok (.ifCond .eq 13, 3) := by decide +kernel
theorem dX6_ifBurst_7 : decode cX6_ifBurst 7 = .ok (.iload_n 2, 1) := by decide +kernel
theorem dX6_ifBurst_8 : decode cX6_ifBurst 8 = .ok (.iconst 0, 1) := by decide +kernel
theorem dX6_ifBurst_9 : decode cX6_ifBurst 9 = .ok (.bipush 9, 2) := by decide +kernel
theorem dX6_ifBurst_11 : decode cX6_ifBurst 11 = .ok (.invokestatic 95, 3) := by decide +kernel
theorem dX6_ifBurst_14 : decode cX6_ifBurst 14 = .ok (.ifCond .ne 6, 3) := by decide +kernel
theorem dX6_ifBurst_17 : decode cX6_ifBurst 17 = .ok (.ldc 45, 2) := by decide +kernel
theorem dX6_ifBurst_19 : decode cX6_ifBurst 19 = .ok (.ireturn, 1) := by decide +kernel
theorem dX6_ifBurst_20 : decode cX6_ifBurst 20 = .ok (.aload_n 0, 1) := by decide +kernel
theorem dX6_ifBurst_21 : decode cX6_ifBurst 21 = .ok (.getfield 16, 3) := by decide +kernel
theorem dX6_ifBurst_24 : decode cX6_ifBurst 24 = .ok (.aload_n 0, 1) := by decide +kernel
theorem dX6_ifBurst_25 : decode cX6_ifBurst 25 = .ok (.getfield 10, 3) := by decide +kernel
theorem dX6_ifBurst_28 : decode cX6_ifBurst 28 = .ok (.invokevirtual 216, 3) := by decide +kernel
theorem dX6_ifBurst_31 : decode cX6_ifBurst 31 = .ok (.aload_n 0, 1) := by decide +kernel
theorem dX6_ifBurst_32 : decode cX6_ifBurst 32 = .ok (.getfield 22, 3) := by decide +kernel
theorem dX6_ifBurst_35 : decode cX6_ifBurst 35 = .ok (.aload_n 0, 1) := by decide +kernel
theorem dX6_ifBurst_36 : decode cX6_ifBurst 36 = .ok (.getfield 16, 3) := by decide +kernel
theorem dX6_ifBurst_39 : decode cX6_ifBurst 39 = .ok (.iload_n 1, 1) := by decide +kernel
theorem dX6_ifBurst_40 : decode cX6_ifBurst 40 = .ok (.invokevirtual 64, 3) := by decide +kernel
theorem dX6_ifBurst_43 : decode cX6_ifBurst 43 = .ok (.aload_n 0, 1) := by decide +kernel
theorem dX6_ifBurst_44 : decode cX6_ifBurst 44 = .ok (.getfield 22, 3) := by decide +kernel
theorem dX6_ifBurst_47 : decode cX6_ifBurst 47 = .ok (.getfield 68, 3) := by decide +kernel
theorem dX6_ifBurst_50 : decode cX6_ifBurst 50 = .ok (.iload_n 2, 1) := by decide +kernel
theorem dX6_ifBurst_51 : decode cX6_ifBurst 51 = .ok (.iaload, 1) := by decide +kernel
theorem dX6_ifBurst_52 : decode cX6_ifBurst 52 = .ok (.ireturn, 1) := by decide +kernel
theorem dX6_comesIn_0 : decode cX6_comesIn 0 = .ok (.iload_n 1, 1) := by decide +kernel
theorem dX6_comesIn_1 : decode cX6_comesIn 1 = .ok (.invokestatic 92, 3) := by decide +kernel
theorem dX6_comesIn_4 : decode cX6_comesIn 4 = .ok (.ifCond .ne 6, 3) := by decide +kernel
theorem dX6_comesIn_7 : decode cX6_comesIn 7 = .ok (.ldc 45, 2) := by decide +kernel
theorem dX6_comesIn_9 : decode cX6_comesIn 9 = .ok (.ireturn, 1) := by decide +kernel
theorem dX6_comesIn_10 : decode cX6_comesIn 10 = .ok (.aload_n 0, 1) := by decide +kernel
theorem dX6_comesIn_11 : decode cX6_comesIn 11 = .ok (.getfield 10, 3) := by decide +kernel
theorem dX6_comesIn_14 : decode cX6_comesIn 14 = .ok (.getfield 82, 3) := by decide +kernel
theorem dX6_comesIn_17 : decode cX6_comesIn 17 = .ok (.getfield 168, 3) := by decide +kernel
theorem dX6_comesIn_20 : decode cX6_comesIn 20 = .ok (.iload_n 1, 1) := by decide +kernel
theorem dX6_comesIn_21 : decode cX6_comesIn 21 = .ok (.invokestatic 171, 3) := by decide +kernel
theorem dX6_comesIn_24 : decode cX6_comesIn 24 = .ok (.ifCond .ne 6, 3) := by decide +kernel
theorem dX6_comesIn_27 : decode cX6_comesIn 27 = .ok (.ldc 117, 2) := by decide +kernel
theorem dX6_comesIn_29 : decode cX6_comesIn 29 = .ok (.ireturn, 1) := by decide +kernel
theorem dX6_comesIn_30 : decode cX6_comesIn 30 = .ok (.aload_n 0, 1) := by decide +kernel
theorem dX6_comesIn_31 : decode cX6_comesIn 31 = .ok (.getfield 16, 3) := by decide +kernel
theorem dX6_comesIn_34 : decode cX6_comesIn 34 = .ok (.getfield 108, 3) := by decide +kernel
theorem dX6_comesIn_37 : decode cX6_comesIn 37 = .ok (.aload_n 0, 1) := by decide +kernel
theorem dX6_comesIn_38 : decode cX6_comesIn 38 = .ok (.getfield 10, 3) := by decide +kernel
theorem dX6_comesIn_41 : decode cX6_comesIn 41 = .ok (.getfield 108, 3) := by decide +kernel
theorem dX6_comesIn_44 : decode cX6_comesIn 44 = .ok (.invokevirtual 220, 3) := by decide +kernel
theorem dX6_comesIn_47 : decode cX6_comesIn 47 = .ok (.iconst 1, 1) := by decide +kernel
theorem dX6_comesIn_48 : decode cX6_comesIn 48 = .ok (.istore_n 2, 1) := by decide +kernel
theorem dX6_comesIn_49 : decode cX6_comesIn 49 = .ok (.iload_n 2, 1) := by decide +kernel
theorem dX6_comesIn_50 : decode cX6_comesIn 50 = .ok (.sipush 4000, 3) := by decide +kernel
theorem dX6_comesIn_53 : decode cX6_comesIn 53 = .ok (.if_icmp .gt 42, 3) := by decide +kernel
theorem dX6_comesIn_56 : decode cX6_comesIn 56 = .ok (.aload_n 0, 1) := by decide +kernel
theorem dX6_comesIn_57 : decode cX6_comesIn 57 = .ok (.getfield 16, 3) := by decide +kernel
theorem dX6_comesIn_60 : decode cX6_comesIn 60 = .ok (.getfield 108, 3) := by decide +kernel
theorem dX6_comesIn_63 : decode cX6_comesIn 63 = .ok (.invokevirtual 223, 3) := by decide +kernel
theorem dX6_comesIn_66 : decode cX6_comesIn 66 = .ok (.aload_n 0, 1) := by decide +kernel
theorem dX6_comesIn_67 : decode cX6_comesIn 67 = .ok (.getfield 10, 3) := by decide +kernel
theorem dX6_comesIn_70 : decode cX6_comesIn 70 = .ok (.getfield 82, 3) := by decide +kernel
theorem dX6_comesIn_73 : decode cX6_comesIn 73 = .ok (.iload_n 1, 1) := by decide +kernel
theorem dX6_comesIn_74 : decode cX6_comesIn 74 = .ok (.aload_n 0, 1) := by decide +kernel
theorem dX6_comesIn_75 : decode cX6_comesIn 75 = .ok (.getfield 16, 3) := by decide +kernel
theorem dX6_comesIn_78 : decode cX6_comesIn 78 = .ok (.getfield 108, 3) := by decide +kernel
theorem dX6_comesIn_81 : decode cX6_comesIn 81 = .ok (.invokevirtual 177, 3) := by decide +kernel
theorem dX6_comesIn_84 : decode cX6_comesIn 84 = .ok (.ifCond .eq 5, 3) := by decide +kernel
theorem dX6_comesIn_87 : decode cX6_comesIn 87 = .ok (.iload_n 2, 1) := by decide +kernel
theorem dX6_comesIn_88 : decode cX6_comesIn 88 = .ok (.ireturn, 1) := by decide +kernel
theorem dX6_comesIn_89 : decode cX6_comesIn 89 = .ok (.iinc 2 1, 3) := by decide +kernel
theorem dX6_comesIn_92 : decode cX6_comesIn 92 = .ok (.goto (-43), 3) := by decide +kernel
theorem dX6_comesIn_95 : decode cX6_comesIn 95 = .ok (.ldc 185, 2) := by decide +kernel
theorem dX6_comesIn_97 : decode cX6_comesIn 97 = .ok (.ireturn, 1) := by decide +kernel
theorem dX6_share_0 : decode cX6_share 0 = .ok (.aload_n 0, 1) := by decide +kernel
theorem dX6_share_1 : decode cX6_share 1 = .ok (.getfield 10, 3) := by decide +kernel
theorem dX6_share_4 : decode cX6_share 4 = .ok (.getfield 226, 3) := by decide +kernel
theorem dX6_share_7 : decode cX6_share 7 = .ok (.ifCond .ne 6, 3) := by decide +kernel
theorem dX6_share_10 : decode cX6_share 10 = .ok (.ldc 185, 2) := by decide +kernel
theorem dX6_share_12 : decode cX6_share 12 = .ok (.ireturn, 1) := by decide +kernel
theorem dX6_share_13 : decode cX6_share 13 = .ok (.aload_n 0, 1) := by decide +kernel
theorem dX6_share_14 : decode cX6_share 14 = .ok (.getfield 10, 3) := by decide +kernel
theorem dX6_share_17 : decode cX6_share 17 = .ok (.getfield 229, 3) := by decide +kernel
theorem dX6_share_20 : decode cX6_share 20 = .ok (.i2f, 1) := by decide +kernel
theorem dX6_share_21 : decode cX6_share 21 = .ok (.aload_n 0, 1) := by decide +kernel
theorem dX6_share_22 : decode cX6_share 22 = .ok (.getfield 10, 3) := by decide +kernel
theorem dX6_share_25 : decode cX6_share 25 = .ok (.getfield 226, 3) := by decide +kernel
theorem dX6_share_28 : decode cX6_share 28 = .ok (.i2f, 1) := by decide +kernel
theorem dX6_share_29 : decode cX6_share 29 = .ok (.fdiv, 1) := by decide +kernel
theorem dX6_share_30 : decode cX6_share 30 = .ok (.invokestatic 232, 3) := by decide +kernel
theorem dX6_share_33 : decode cX6_share 33 = .ok (.ireturn, 1) := by decide +kernel
theorem dX6_count_0 : decode cX6_count 0 = .ok (.iload_n 1, 1) := by decide +kernel
theorem dX6_count_1 : decode cX6_count 1 = .ok (.bipush 20, 2) := by decide +kernel
theorem dX6_count_3 : decode cX6_count 3 = .ok (.bipush 22, 2) := by decide +kernel
theorem dX6_count_5 : decode cX6_count 5 = .ok (.invokestatic 95, 3) := by decide +kernel
theorem dX6_count_8 : decode cX6_count 8 = .ok (.ifCond .eq 16, 3) := by decide +kernel
theorem dX6_count_11 : decode cX6_count 11 = .ok (.aload_n 0, 1) := by decide +kernel
theorem dX6_count_12 : decode cX6_count 12 = .ok (.getfield 10, 3) := by decide +kernel
theorem dX6_count_15 : decode cX6_count 15 = .ok (.getfield 210, 3) := by decide +kernel
theorem dX6_count_18 : decode cX6_count 18 = .ok (.iload_n 1, 1) := by decide +kernel
theorem dX6_count_19 : decode cX6_count 19 = .ok (.bipush 20, 2) := by decide +kernel
theorem dX6_count_21 : decode cX6_count 21 = .ok (.isub, 1) := by decide +kernel
theorem dX6_count_22 : decode cX6_count 22 = .ok (.iaload, 1) := by decide +kernel
theorem dX6_count_23 : decode cX6_count 23 = .ok (.ireturn, 1) := by decide +kernel
theorem dX6_count_24 : decode cX6_count 24 = .ok (.iload_n 1, 1) := by decide +kernel
theorem dX6_count_25 : decode cX6_count 25 = .ok (.tableswitch 192 0 13 #[71, 79, 87, 98, 109, 120, 131, 139, 147, 155, 163, 171, 182, 187], 71) := by decide +kernel
theorem dX6_count_96 : decode cX6_count 96 = .ok (.aload_n 0, 1) := by decide +kernel
theorem dX6_count_97 : decode cX6_count 97 = .ok (.getfield 10, 3) := by decide +kernel
theorem dX6_count_100 : decode cX6_count 100 = .ok (.getfield 213, 3) := by decide +kernel
theorem dX6_count_103 : decode cX6_count 103 = .ok (.ireturn, 1) := by decide +kernel
theorem dX6_count_104 : decode cX6_count 104 = .ok (.aload_n 0, 1) := by decide +kernel
theorem dX6_count_105 : decode cX6_count 105 = .ok (.getfield 10, 3) := by decide +kernel
theorem dX6_count_108 : decode cX6_count 108 = .ok (.getfield 236, 3) := by decide +kernel
theorem dX6_count_111 : decode cX6_count 111 = .ok (.ireturn, 1) := by decide +kernel
theorem dX6_count_112 : decode cX6_count 112 = .ok (.aload_n 0, 1) := by decide +kernel
theorem dX6_count_113 : decode cX6_count 113 = .ok (.getfield 10, 3) := by decide +kernel
theorem dX6_count_116 : decode cX6_count 116 = .ok (.getfield 108, 3) := by decide +kernel
theorem dX6_count_119 : decode cX6_count 119 = .ok (.invokevirtual 239, 3) := by decide +kernel
theorem dX6_count_122 : decode cX6_count 122 = .ok (.ireturn, 1) := by decide +kernel
theorem dX6_count_123 : decode cX6_count 123 = .ok (.aload_n 0, 1) := by decide +kernel
theorem dX6_count_124 : decode cX6_count 124 = .ok (.getfield 10, 3) := by decide +kernel
theorem dX6_count_127 : decode cX6_count 127 = .ok (.getfield 82, 3) := by decide +kernel
theorem dX6_count_130 : decode cX6_count 130 = .ok (.getfield 101, 3) := by decide +kernel
theorem dX6_count_133 : decode cX6_count 133 = .ok (.ireturn, 1) := by decide +kernel
theorem dX6_count_134 : decode cX6_count 134 = .ok (.aload_n 0, 1) := by decide +kernel
theorem dX6_count_135 : decode cX6_count 135 = .ok (.getfield 10, 3) := by decide +kernel
theorem dX6_count_138 : decode cX6_count 138 = .ok (.getfield 82, 3) := by decide +kernel
theorem dX6_count_141 : decode cX6_count 141 = .ok (.invokevirtual 242, 3) := by decide +kernel
theorem dX6_count_144 : decode cX6_count 144 = .ok (.ireturn, 1) := by decide +kernel
theorem dX6_count_145 : decode cX6_count 145 = .ok (.aload_n 0, 1) := by decide +kernel
theorem dX6_count_146 : decode cX6_count 146 = .ok (.getfield 10, 3) := by decide +kernel
theorem dX6_count_149 : decode cX6_count 149 = .ok (.getfield 108, 3) := by decide +kernel
theorem dX6_count_152 : decode cX6_count 152 = .ok (.invokevirtual 125, 3) := by decide +kernel
theorem dX6_count_155 : decode cX6_count 155 = .ok (.ireturn, 1) := by decide +kernel
theorem dX6_count_156 : decode cX6_count 156 = .ok (.aload_n 0, 1) := by decide +kernel
theorem dX6_count_157 : decode cX6_count 157 = .ok (.getfield 10, 3) := by decide +kernel
theorem dX6_count_160 : decode cX6_count 160 = .ok (.getfield 226, 3) := by decide +kernel
theorem dX6_count_163 : decode cX6_count 163 = .ok (.ireturn, 1) := by decide +kernel
theorem dX6_count_164 : decode cX6_count 164 = .ok (.aload_n 0, 1) := by decide +kernel
theorem dX6_count_165 : decode cX6_count 165 = .ok (.getfield 10, 3) := by decide +kernel
theorem dX6_count_168 : decode cX6_count 168 = .ok (.getfield 229, 3) := by decide +kernel
theorem dX6_count_171 : decode cX6_count 171 = .ok (.ireturn, 1) := by decide +kernel
theorem dX6_count_172 : decode cX6_count 172 = .ok (.aload_n 0, 1) := by decide +kernel
theorem dX6_count_173 : decode cX6_count 173 = .ok (.getfield 10, 3) := by decide +kernel
theorem dX6_count_176 : decode cX6_count 176 = .ok (.getfield 245, 3) := by decide +kernel
theorem dX6_count_179 : decode cX6_count 179 = .ok (.ireturn, 1) := by decide +kernel
theorem dX6_count_180 : decode cX6_count 180 = .ok (.aload_n 0, 1) := by decide +kernel
theorem dX6_count_181 : decode cX6_count 181 = .ok (.getfield 10, 3) := by decide +kernel
theorem dX6_count_184 : decode cX6_count 184 = .ok (.getfield 248, 3) := by decide +kernel
theorem dX6_count_187 : decode cX6_count 187 = .ok (.ireturn, 1) := by decide +kernel
theorem dX6_count_188 : decode cX6_count 188 = .ok (.aload_n 0, 1) := by decide +kernel
theorem dX6_count_189 : decode cX6_count 189 = .ok (.getfield 10, 3) := by decide +kernel
theorem dX6_count_192 : decode cX6_count 192 = .ok (.getfield 251, 3) := by decide +kernel
theorem dX6_count_195 : decode cX6_count 195 = .ok (.ireturn, 1) := by decide +kernel
theorem dX6_count_196 : decode cX6_count 196 = .ok (.aload_n 0, 1) := by decide +kernel
theorem dX6_count_197 : decode cX6_count 197 = .ok (.getfield 10, 3) := by decide +kernel
theorem dX6_count_200 : decode cX6_count 200 = .ok (.getfield 198, 3) := by decide +kernel
theorem dX6_count_203 : decode cX6_count 203 = .ok (.getfield 202, 3) := by decide +kernel
theorem dX6_count_206 : decode cX6_count 206 = .ok (.ireturn, 1) := by decide +kernel
theorem dX6_count_207 : decode cX6_count 207 = .ok (.aload_n 0, 1) := by decide +kernel
theorem dX6_count_208 : decode cX6_count 208 = .ok (.getfield 254, 3) := by decide +kernel
theorem dX6_count_211 : decode cX6_count 211 = .ok (.ireturn, 1) := by decide +kernel
theorem dX6_count_212 : decode cX6_count 212 = .ok (.aload_n 0, 1) := by decide +kernel
theorem dX6_count_213 : decode cX6_count 213 = .ok (.getfield 257, 3) := by decide +kernel
theorem dX6_count_216 : decode cX6_count 216 = .ok (.ireturn, 1) := by decide +kernel
theorem dX6_count_217 : decode cX6_count 217 = .ok (.ldc 45, 2) := by decide +kernel
theorem dX6_count_219 : decode cX6_count 219 = .ok (.ireturn, 1) := by decide +kernel
theorem dX6_undo_0 : decode cX6_undo 0 = .ok (.aload_n 0, 1) := by decide +kernel
theorem dX6_undo_1 : decode cX6_undo 1 = .ok (.getfield 254, 3) := by decide +kernel
theorem dX6_undo_4 : decode cX6_undo 4 = .ok (.ifCond .le 17, 3) := by decide +kernel
theorem dX6_undo_7 : decode cX6_undo 7 = .ok (.aload_n 0, 1) := by decide +kernel
theorem dX6_undo_8 : decode cX6_undo 8 = .ok (.getfield 33, 3) := by decide +kernel
theorem dX6_undo_11 : decode cX6_undo 11 = .ok (.aload_n 0, 1) := by decide +kernel
theorem dX6_undo_12 : decode cX6_undo 12 = .ok (.getfield 254, 3) := by decide +kernel
theorem dX6_undo_15 : decode cX6_undo 15 = .ok (.iconst 1, 1) := by decide +kernel
theorem dX6_undo_16 : decode cX6_undo 16 = .ok (.isub, 1) := by decide +kernel
theorem dX6_undo_17 : decode cX6_undo 17 = .ok (.aaload, 1) := by decide +kernel
theorem dX6_undo_18 : decode cX6_undo 18 = .ok (.goto 4, 3) := by decide +kernel
theorem dX6_undo_21 : decode cX6_undo 21 = .ok (.aconst_null, 1) := by decide +kernel
theorem dX6_undo_22 : decode cX6_undo 22 = .ok (.astore_n 1, 1) := by decide +kernel
theorem dX6_undo_23 : decode cX6_undo 23 = .ok (.aload_n 1, 1) := by decide +kernel
theorem dX6_undo_24 : decode cX6_undo 24 = .ok (.ifnonnull 6, 3) := by decide +kernel
theorem dX6_undo_27 : decode cX6_undo 27 = .ok (.ldc 117, 2) := by decide +kernel
theorem dX6_undo_29 : decode cX6_undo 29 = .ok (.ireturn, 1) := by decide +kernel
theorem dX6_undo_30 : decode cX6_undo 30 = .ok (.aload_n 0, 1) := by decide +kernel
theorem dX6_undo_31 : decode cX6_undo 31 = .ok (.getfield 10, 3) := by decide +kernel
theorem dX6_undo_34 : decode cX6_undo 34 = .ok (.aload_n 1, 1) := by decide +kernel
theorem dX6_undo_35 : decode cX6_undo 35 = .ok (.invokevirtual 216, 3) := by decide +kernel
theorem dX6_undo_38 : decode cX6_undo 38 = .ok (.aload_n 0, 1) := by decide +kernel
theorem dX6_undo_39 : decode cX6_undo 39 = .ok (.dup, 1) := by decide +kernel
theorem dX6_undo_40 : decode cX6_undo 40 = .ok (.getfield 254, 3) := by decide +kernel
theorem dX6_undo_43 : decode cX6_undo 43 = .ok (.iconst 1, 1) := by decide +kernel
theorem dX6_undo_44 : decode cX6_undo 44 = .ok (.isub, 1) := by decide +kernel
theorem dX6_undo_45 : decode cX6_undo 45 = .ok (.putfield 254, 3) := by decide +kernel
theorem dX6_undo_48 : decode cX6_undo 48 = .ok (.aload_n 0, 1) := by decide +kernel
theorem dX6_undo_49 : decode cX6_undo 49 = .ok (.getfield 254, 3) := by decide +kernel
theorem dX6_undo_52 : decode cX6_undo 52 = .ok (.ireturn, 1) := by decide +kernel
theorem dX6_type_0 : decode cX6_type 0 = .ok (.iload_n 1, 1) := by decide +kernel
theorem dX6_type_1 : decode cX6_type 1 = .ok (.bipush 32, 2) := by decide +kernel
theorem dX6_type_3 : decode cX6_type 3 = .ok (.bipush 126, 2) := by decide +kernel
theorem dX6_type_5 : decode cX6_type 5 = .ok (.invokestatic 95, 3) := by decide +kernel
theorem dX6_type_8 : decode cX6_type 8 = .ok (.ifCond .ne 6, 3) := by decide +kernel
theorem dX6_type_11 : decode cX6_type 11 = .ok (.ldc 45, 2) := by decide +kernel
theorem dX6_type_13 : decode cX6_type 13 = .ok (.ireturn, 1) := by decide +kernel
theorem dX6_type_14 : decode cX6_type 14 = .ok (.aload_n 0, 1) := by decide +kernel
theorem dX6_type_15 : decode cX6_type 15 = .ok (.getfield 257, 3) := by decide +kernel
theorem dX6_type_18 : decode cX6_type 18 = .ok (.bipush 60, 2) := by decide +kernel
theorem dX6_type_20 : decode cX6_type 20 = .ok (.if_icmp .lt 7, 3) := by decide +kernel
theorem dX6_type_23 : decode cX6_type 23 = .ok (.ldc_w 260, 3) := by decide +kernel
theorem dX6_type_26 : decode cX6_type 26 = .ok (.ireturn, 1) := by decide +kernel
theorem dX6_type_27 : decode cX6_type 27 = .ok (.aload_n 0, 1) := by decide +kernel
theorem dX6_type_28 : decode cX6_type 28 = .ok (.getfield 37, 3) := by decide +kernel
theorem dX6_type_31 : decode cX6_type 31 = .ok (.aload_n 0, 1) := by decide +kernel
theorem dX6_type_32 : decode cX6_type 32 = .ok (.getfield 257, 3) := by decide +kernel
theorem dX6_type_35 : decode cX6_type 35 = .ok (.iload_n 1, 1) := by decide +kernel
theorem dX6_type_36 : decode cX6_type 36 = .ok (.i2c, 1) := by decide +kernel
theorem dX6_type_37 : decode cX6_type 37 = .ok (.castore, 1) := by decide +kernel
theorem dX6_type_38 : decode cX6_type 38 = .ok (.aload_n 0, 1) := by decide +kernel
theorem dX6_type_39 : decode cX6_type 39 = .ok (.dup, 1) := by decide +kernel
theorem dX6_type_40 : decode cX6_type 40 = .ok (.getfield 257, 3) := by decide +kernel
theorem dX6_type_43 : decode cX6_type 43 = .ok (.iconst 1, 1) := by decide +kernel
theorem dX6_type_44 : decode cX6_type 44 = .ok (.iadd, 1) := by decide +kernel
theorem dX6_type_45 : decode cX6_type 45 = .ok (.putfield 257, 3) := by decide +kernel
theorem dX6_type_48 : decode cX6_type 48 = .ok (.aload_n 0, 1) := by decide +kernel
theorem dX6_type_49 : decode cX6_type 49 = .ok (.getfield 257, 3) := by decide +kernel
theorem dX6_type_52 : decode cX6_type 52 = .ok (.ireturn, 1) := by decide +kernel
theorem dX6_clearText_0 : decode cX6_clearText 0 = .ok (.aload_n 0, 1) := by decide +kernel
theorem dX6_clearText_1 : decode cX6_clearText 1 = .ok (.getfield 257, 3) := by decide +kernel
theorem dX6_clearText_4 : decode cX6_clearText 4 = .ok (.istore_n 1, 1) := by decide +kernel
theorem dX6_clearText_5 : decode cX6_clearText 5 = .ok (.aload_n 0, 1) := by decide +kernel
theorem dX6_clearText_6 : decode cX6_clearText 6 = .ok (.iconst 0, 1) := by decide +kernel
theorem dX6_clearText_7 : decode cX6_clearText 7 = .ok (.putfield 257, 3) := by decide +kernel
theorem dX6_clearText_10 : decode cX6_clearText 10 = .ok (.iload_n 1, 1) := by decide +kernel
theorem dX6_clearText_11 : decode cX6_clearText 11 = .ok (.ireturn, 1) := by decide +kernel
theorem dX6_fault_0 : decode cX6_fault 0 = .ok (.iload_n 1, 1) := by decide +kernel
theorem dX6_fault_1 : decode cX6_fault 1 = .ok (.iconst 0, 1) := by decide +kernel
theorem dX6_fault_2 : decode cX6_fault 2 = .ok (.iconst 2, 1) := by decide +kernel
theorem dX6_fault_3 : decode cX6_fault 3 = .ok (.invokestatic 95, 3) := by decide +kernel
theorem dX6_fault_6 : decode cX6_fault 6 = .ok (.ifCond .ne 6, 3) := by decide +kernel
theorem dX6_fault_9 : decode cX6_fault 9 = .ok (.ldc 45, 2) := by decide +kernel
theorem dX6_fault_11 : decode cX6_fault 11 = .ok (.ireturn, 1) := by decide +kernel
theorem dX6_fault_12 : decode cX6_fault 12 = .ok (.aload_n 0, 1) := by decide +kernel
theorem dX6_fault_13 : decode cX6_fault 13 = .ok (.invokevirtual 261, 3) := by decide +kernel
theorem dX6_fault_16 : decode cX6_fault 16 = .ok (.istore_n 2, 1) := by decide +kernel
theorem dX6_fault_17 : decode cX6_fault 17 = .ok (.iload_n 2, 1) := by decide +kernel
theorem dX6_fault_18 : decode cX6_fault 18 = .ok (.ifCond .ge 6, 3) := by decide +kernel
theorem dX6_fault_21 : decode cX6_fault 21 = .ok (.ldc 185, 2) := by decide +kernel
theorem dX6_fault_23 : decode cX6_fault 23 = .ok (.ireturn, 1) := by decide +kernel
theorem dX6_fault_24 : decode cX6_fault 24 = .ok (.iload_n 1, 1) := by decide +kernel
theorem dX6_fault_25 : decode cX6_fault 25 = .ok (.lookupswitch 45 #[(0, 27), (1, 29)], 27) := by decide +kernel
theorem dX6_fault_52 : decode cX6_fault 52 = .ok (.iload_n 2, 1) := by decide +kernel
theorem dX6_fault_53 : decode cX6_fault 53 = .ok (.ireturn, 1) := by decide +kernel
theorem dX6_fault_54 : decode cX6_fault 54 = .ok (.aload_n 0, 1) := by decide +kernel
theorem dX6_fault_55 : decode cX6_fault 55 = .ok (.getfield 29, 3) := by decide +kernel
theorem dX6_fault_58 : decode cX6_fault 58 = .ok (.getfield 264, 3) := by decide +kernel
theorem dX6_fault_61 : decode cX6_fault 61 = .ok (.ifCond .eq 7, 3) := by decide +kernel
theorem dX6_fault_64 : decode cX6_fault 64 = .ok (.iconst 1, 1) := by decide +kernel
theorem dX6_fault_65 : decode cX6_fault 65 = .ok (.goto 4, 3) := by decide +kernel
theorem dX6_fault_68 : decode cX6_fault 68 = .ok (.iconst 2, 1) := by decide +kernel
theorem dX6_fault_69 : decode cX6_fault 69 = .ok (.ireturn, 1) := by decide +kernel
theorem dX6_fault_70 : decode cX6_fault 70 = .ok (.aload_n 0, 1) := by decide +kernel
theorem dX6_fault_71 : decode cX6_fault 71 = .ok (.getfield 29, 3) := by decide +kernel
theorem dX6_fault_74 : decode cX6_fault 74 = .ok (.getfield 264, 3) := by decide +kernel
theorem dX6_fault_77 : decode cX6_fault 77 = .ok (.ifCond .eq 13, 3) := by decide +kernel
theorem dX6_fault_80 : decode cX6_fault 80 = .ok (.aload_n 0, 1) := by decide +kernel
theorem dX6_fault_81 : decode cX6_fault 81 = .ok (.getfield 29, 3) := by decide +kernel
theorem dX6_fault_84 : decode cX6_fault 84 = .ok (.getfield 268, 3) := by decide +kernel
theorem dX6_fault_87 : decode cX6_fault 87 = .ok (.goto 5, 3) := by decide +kernel
theorem dX6_fault_90 : decode cX6_fault 90 = .ok (.ldc 45, 2) := by decide +kernel
theorem dX6_fault_92 : decode cX6_fault 92 = .ok (.ireturn, 1) := by decide +kernel
theorem dX6_play_0 : decode cX6_play 0 = .ok (.aload_n 0, 1) := by decide +kernel
theorem dX6_play_1 : decode cX6_play 1 = .ok (.invokevirtual 261, 3) := by decide +kernel
theorem dX6_play_4 : decode cX6_play 4 = .ok (.ifCond .lt 6, 3) := by decide +kernel
theorem dX6_play_7 : decode cX6_play 7 = .ok (.ldc 117, 2) := by decide +kernel
theorem dX6_play_9 : decode cX6_play 9 = .ok (.ireturn, 1) := by decide +kernel
theorem dX6_play_10 : decode cX6_play 10 = .ok (.aload_n 0, 1) := by decide +kernel
theorem dX6_play_11 : decode cX6_play 11 = .ok (.invokevirtual 46, 3) := by decide +kernel
theorem dX6_play_14 : decode cX6_play 14 = .ok (.iconst 0, 1) := by decide +kernel
theorem dX6_play_15 : decode cX6_play 15 = .ok (.istore_n 1, 1) := by decide +kernel
theorem dX6_play_16 : decode cX6_play 16 = .ok (.iconst 0, 1) := by decide +kernel
theorem dX6_play_17 : decode cX6_play 17 = .ok (.istore_n 2, 1) := by decide +kernel
theorem dX6_play_18 : decode cX6_play 18 = .ok (.iload_n 2, 1) := by decide +kernel
theorem dX6_play_19 : decode cX6_play 19 = .ok (.bipush 60, 2) := by decide +kernel
theorem dX6_play_21 : decode cX6_play 21 = .ok (.if_icmp .ge 209, 3) := by decide +kernel
theorem dX6_play_24 : decode cX6_play 24 = .ok (.iload_n 1, 1) := by decide +kernel
theorem dX6_play_25 : decode cX6_play 25 = .ok (.aload_n 0, 1) := by decide +kernel
theorem dX6_play_26 : decode cX6_play 26 = .ok (.getfield 257, 3) := by decide +kernel
theorem dX6_play_29 : decode cX6_play 29 = .ok (.if_icmp .ge 201, 3) := by decide +kernel
theorem dX6_play_32 : decode cX6_play 32 = .ok (.aload_n 0, 1) := by decide +kernel
theorem dX6_play_33 : decode cX6_play 33 = .ok (.getfield 29, 3) := by decide +kernel
theorem dX6_play_36 : decode cX6_play 36 = .ok (.aload_n 0, 1) := by decide +kernel
theorem dX6_play_37 : decode cX6_play 37 = .ok (.getfield 37, 3) := by decide +kernel
theorem dX6_play_40 : decode cX6_play 40 = .ok (.aload_n 0, 1) := by decide +kernel
theorem dX6_play_41 : decode cX6_play 41 = .ok (.getfield 257, 3) := by decide +kernel
theorem dX6_play_44 : decode cX6_play 44 = .ok (.iload_n 1, 1) := by decide +kernel
theorem dX6_play_45 : decode cX6_play 45 = .ok (.invokevirtual 271, 3) := by decide +kernel
theorem dX6_play_48 : decode cX6_play 48 = .ok (.aload_n 0, 1) := by decide +kernel
theorem dX6_play_49 : decode cX6_play 49 = .ok (.getfield 29, 3) := by decide +kernel
theorem dX6_play_52 : decode cX6_play 52 = .ok (.getfield 275, 3) := by decide +kernel
theorem dX6_play_55 : decode cX6_play 55 = .ok (.astore_n 3, 1) := by decide +kernel
theorem dX6_play_56 : decode cX6_play 56 = .ok (.aload_n 0, 1) := by decide +kernel
theorem dX6_play_57 : decode cX6_play 57 = .ok (.getfield 29, 3) := by decide +kernel
theorem dX6_play_60 : decode cX6_play 60 = .ok (.getfield 278, 3) := by decide +kernel
theorem dX6_play_63 : decode cX6_play 63 = .ok (.lookupswitch 134 #[(97, 111), (98, 80), (112, 97), (114, 66), (119, 49)], 49) := by decide +kernel
theorem dX6_play_112 : decode cX6_play 112 = .ok (.aload_n 0, 1) := by decide +kernel
theorem dX6_play_113 : decode cX6_play 113 = .ok (.getfield 10, 3) := by decide +kernel
theorem dX6_play_116 : decode cX6_play 116 = .ok (.aload_n 3, 1) := by decide +kernel
theorem dX6_play_117 : decode cX6_play 117 = .ok (.iconst 0, 1) := by decide +kernel
theorem dX6_play_118 : decode cX6_play 118 = .ok (.iaload, 1) := by decide +kernel
theorem dX6_play_119 : decode cX6_play 119 = .ok (.aload_n 3, 1) := by decide +kernel
theorem dX6_play_120 : decode cX6_play 120 = .ok (.iconst 1, 1) := by decide +kernel
theorem dX6_play_121 : decode cX6_play 121 = .ok (.iaload, 1) := by decide +kernel
theorem dX6_play_122 : decode cX6_play 122 = .ok (.invokevirtual 49, 3) := by decide +kernel
theorem dX6_play_125 : decode cX6_play 125 = .ok (.pop, 1) := by decide +kernel
theorem dX6_play_126 : decode cX6_play 126 = .ok (.goto 88, 3) := by decide +kernel
theorem dX6_play_129 : decode cX6_play 129 = .ok (.aload_n 0, 1) := by decide +kernel
theorem dX6_play_130 : decode cX6_play 130 = .ok (.getfield 10, 3) := by decide +kernel
theorem dX6_play_133 : decode cX6_play 133 = .ok (.aload_n 3, 1) := by decide +kernel
theorem dX6_play_134 : decode cX6_play 134 = .ok (.iconst 0, 1) := by decide +kernel
theorem dX6_play_135 : decode cX6_play 135 = .ok (.iaload, 1) := by decide +kernel
theorem dX6_play_136 : decode cX6_play 136 = .ok (.invokevirtual 57, 3) := by decide +kernel
theorem dX6_play_139 : decode cX6_play 139 = .ok (.pop, 1) := by decide +kernel
theorem dX6_play_140 : decode cX6_play 140 = .ok (.goto 74, 3) := by decide +kernel
theorem dX6_play_143 : decode cX6_play 143 = .ok (.aload_n 0, 1) := by decide +kernel
theorem dX6_play_144 : decode cX6_play 144 = .ok (.getfield 22, 3) := by decide +kernel
theorem dX6_play_147 : decode cX6_play 147 = .ok (.aload_n 0, 1) := by decide +kernel
theorem dX6_play_148 : decode cX6_play 148 = .ok (.getfield 10, 3) := by decide +kernel
theorem dX6_play_151 : decode cX6_play 151 = .ok (.aload_n 3, 1) := by decide +kernel
theorem dX6_play_152 : decode cX6_play 152 = .ok (.iconst 0, 1) := by decide +kernel
theorem dX6_play_153 : decode cX6_play 153 = .ok (.iaload, 1) := by decide +kernel
theorem dX6_play_154 : decode cX6_play 154 = .ok (.invokevirtual 64, 3) := by decide +kernel
theorem dX6_play_157 : decode cX6_play 157 = .ok (.goto 57, 3) := by decide +kernel
theorem dX6_play_160 : decode cX6_play 160 = .ok (.aload_n 0, 1) := by decide +kernel
theorem dX6_play_161 : decode cX6_play 161 = .ok (.getfield 10, 3) := by decide +kernel
theorem dX6_play_164 : decode cX6_play 164 = .ok (.aload_n 3, 1) := by decide +kernel
theorem dX6_play_165 : decode cX6_play 165 = .ok (.iconst 0, 1) := by decide +kernel
theorem dX6_play_166 : decode cX6_play 166 = .ok (.iaload, 1) := by decide +kernel
theorem dX6_play_167 : decode cX6_play 167 = .ok (.invokevirtual 75, 3) := by decide +kernel
theorem dX6_play_170 : decode cX6_play 170 = .ok (.pop, 1) := by decide +kernel
theorem dX6_play_171 : decode cX6_play 171 = .ok (.goto 43, 3) := by decide +kernel
theorem dX6_play_174 : decode cX6_play 174 = .ok (.aload_n 0, 1) := by decide +kernel
theorem dX6_play_175 : decode cX6_play 175 = .ok (.getfield 10, 3) := by decide +kernel
theorem dX6_play_178 : decode cX6_play 178 = .ok (.getfield 82, 3) := by decide +kernel
theorem dX6_play_181 : decode cX6_play 181 = .ok (.aload_n 3, 1) := by decide +kernel
theorem dX6_play_182 : decode cX6_play 182 = .ok (.iconst 0, 1) := by decide +kernel
theorem dX6_play_183 : decode cX6_play 183 = .ok (.iaload, 1) := by decide +kernel
theorem dX6_play_184 : decode cX6_play 184 = .ok (.aload_n 3, 1) := by decide +kernel
theorem dX6_play_185 : decode cX6_play 185 = .ok (.iconst 1, 1) := by decide +kernel
theorem dX6_play_186 : decode cX6_play 186 = .ok (.iaload, 1) := by decide +kernel
theorem dX6_play_187 : decode cX6_play 187 = .ok (.aload_n 3, 1) := by decide +kernel
theorem dX6_play_188 : decode cX6_play 188 = .ok (.iconst 2, 1) := by decide +kernel
theorem dX6_play_189 : decode cX6_play 189 = .ok (.iaload, 1) := by decide +kernel
theorem dX6_play_190 : decode cX6_play 190 = .ok (.invokevirtual 86, 3) := by decide +kernel
theorem dX6_play_193 : decode cX6_play 193 = .ok (.pop, 1) := by decide +kernel
theorem dX6_play_194 : decode cX6_play 194 = .ok (.goto 20, 3) := by decide +kernel
theorem dX6_play_197 : decode cX6_play 197 = .ok (.aload_n 0, 1) := by decide +kernel
theorem dX6_play_198 : decode cX6_play 198 = .ok (.getfield 10, 3) := by decide +kernel
theorem dX6_play_201 : decode cX6_play 201 = .ok (.getfield 82, 3) := by decide +kernel
theorem dX6_play_204 : decode cX6_play 204 = .ok (.aload_n 3, 1) := by decide +kernel
theorem dX6_play_205 : decode cX6_play 205 = .ok (.iconst 0, 1) := by decide +kernel
theorem dX6_play_206 : decode cX6_play 206 = .ok (.iaload, 1) := by decide +kernel
theorem dX6_play_207 : decode cX6_play 207 = .ok (.aload_n 3, 1) := by decide +kernel
theorem dX6_play_208 : decode cX6_play 208 = .ok (.iconst 1, 1) := by decide +kernel
theorem dX6_play_209 : decode cX6_play 209 = .ok (.iaload, 1) := by decide +kernel
theorem dX6_play_210 : decode cX6_play 210 = .ok (.invokevirtual 98, 3) := by decide +kernel
theorem dX6_play_213 : decode cX6_play 213 = .ok (.pop, 1) := by decide +kernel
theorem dX6_play_214 : decode cX6_play 214 = .ok (.iload_n 1, 1) := by decide +kernel
theorem dX6_play_215 : decode cX6_play 215 = .ok (.aload_n 0, 1) := by decide +kernel
theorem dX6_play_216 : decode cX6_play 216 = .ok (.getfield 29, 3) := by decide +kernel
theorem dX6_play_219 : decode cX6_play 219 = .ok (.getfield 268, 3) := by decide +kernel
theorem dX6_play_222 : decode cX6_play 222 = .ok (.iadd, 1) := by decide +kernel
theorem dX6_play_223 : decode cX6_play 223 = .ok (.istore_n 1, 1) := by decide +kernel
theorem dX6_play_224 : decode cX6_play 224 = .ok (.iinc 2 1, 3) := by decide +kernel
theorem dX6_play_227 : decode cX6_play 227 = .ok (.goto (-209), 3) := by decide +kernel
theorem dX6_play_230 : decode cX6_play 230 = .ok (.iload_n 2, 1) := by decide +kernel
theorem dX6_play_231 : decode cX6_play 231 = .ok (.ireturn, 1) := by decide +kernel
theorem dX6_keepState_0 : decode cX6_keepState 0 = .ok (.aload_n 0, 1) := by decide +kernel
theorem dX6_keepState_1 : decode cX6_keepState 1 = .ok (.getfield 254, 3) := by decide +kernel
theorem dX6_keepState_4 : decode cX6_keepState 4 = .ok (.iconst 4, 1) := by decide +kernel
theorem dX6_keepState_5 : decode cX6_keepState 5 = .ok (.if_icmp .lt 49, 3) := by decide +kernel
theorem dX6_keepState_8 : decode cX6_keepState 8 = .ok (.aload_n 0, 1) := by decide +kernel
theorem dX6_keepState_9 : decode cX6_keepState 9 = .ok (.getfield 33, 3) := by decide +kernel
theorem dX6_keepState_12 : decode cX6_keepState 12 = .ok (.iconst 0, 1) := by decide +kernel
theorem dX6_keepState_13 : decode cX6_keepState 13 = .ok (.aaload, 1) := by decide +kernel
theorem dX6_keepState_14 : decode cX6_keepState 14 = .ok (.astore_n 1, 1) := by decide +kernel
theorem dX6_keepState_15 : decode cX6_keepState 15 = .ok (.iconst 1, 1) := by decide +kernel
theorem dX6_keepState_16 : decode cX6_keepState 16 = .ok (.istore_n 2, 1) := by decide +kernel
theorem dX6_keepState_17 : decode cX6_keepState 17 = .ok (.iload_n 2, 1) := by decide +kernel
theorem dX6_keepState_18 : decode cX6_keepState 18 = .ok (.iconst 4, 1) := by decide +kernel
theorem dX6_keepState_19 : decode cX6_keepState 19 = .ok (.if_icmp .ge 23, 3) := by decide +kernel
theorem dX6_keepState_22 : decode cX6_keepState 22 = .ok (.aload_n 0, 1) := by decide +kernel
theorem dX6_keepState_23 : decode cX6_keepState 23 = .ok (.getfield 33, 3) := by decide +kernel
theorem dX6_keepState_26 : decode cX6_keepState 26 = .ok (.iload_n 2, 1) := by decide +kernel
theorem dX6_keepState_27 : decode cX6_keepState 27 = .ok (.iconst 1, 1) := by decide +kernel
theorem dX6_keepState_28 : decode cX6_keepState 28 = .ok (.isub, 1) := by decide +kernel
theorem dX6_keepState_29 : decode cX6_keepState 29 = .ok (.aload_n 0, 1) := by decide +kernel
theorem dX6_keepState_30 : decode cX6_keepState 30 = .ok (.getfield 33, 3) := by decide +kernel
theorem dX6_keepState_33 : decode cX6_keepState 33 = .ok (.iload_n 2, 1) := by decide +kernel
theorem dX6_keepState_34 : decode cX6_keepState 34 = .ok (.aaload, 1) := by decide +kernel
theorem dX6_keepState_35 : decode cX6_keepState 35 = .ok (.aastore, 1) := by decide +kernel
theorem dX6_keepState_36 : decode cX6_keepState 36 = .ok (.iinc 2 1, 3) := by decide +kernel
theorem dX6_keepState_39 : decode cX6_keepState 39 = .ok (.goto (-22), 3) := by decide +kernel
theorem dX6_keepState_42 : decode cX6_keepState 42 = .ok (.aload_n 0, 1) := by decide +kernel
theorem dX6_keepState_43 : decode cX6_keepState 43 = .ok (.getfield 33, 3) := by decide +kernel
theorem dX6_keepState_46 : decode cX6_keepState 46 = .ok (.iconst 3, 1) := by decide +kernel
theorem dX6_keepState_47 : decode cX6_keepState 47 = .ok (.aload_n 1, 1) := by decide +kernel
theorem dX6_keepState_48 : decode cX6_keepState 48 = .ok (.aastore, 1) := by decide +kernel
theorem dX6_keepState_49 : decode cX6_keepState 49 = .ok (.aload_n 0, 1) := by decide +kernel
theorem dX6_keepState_50 : decode cX6_keepState 50 = .ok (.iconst 3, 1) := by decide +kernel
theorem dX6_keepState_51 : decode cX6_keepState 51 = .ok (.putfield 254, 3) := by decide +kernel
theorem dX6_keepState_54 : decode cX6_keepState 54 = .ok (.aload_n 0, 1) := by decide +kernel
theorem dX6_keepState_55 : decode cX6_keepState 55 = .ok (.getfield 33, 3) := by decide +kernel
theorem dX6_keepState_58 : decode cX6_keepState 58 = .ok (.aload_n 0, 1) := by decide +kernel
theorem dX6_keepState_59 : decode cX6_keepState 59 = .ok (.getfield 254, 3) := by decide +kernel
theorem dX6_keepState_62 : decode cX6_keepState 62 = .ok (.aaload, 1) := by decide +kernel
theorem dX6_keepState_63 : decode cX6_keepState 63 = .ok (.astore_n 1, 1) := by decide +kernel
theorem dX6_keepState_64 : decode cX6_keepState 64 = .ok (.aload_n 1, 1) := by decide +kernel
theorem dX6_keepState_65 : decode cX6_keepState 65 = .ok (.ifnull 21, 3) := by decide +kernel
theorem dX6_keepState_68 : decode cX6_keepState 68 = .ok (.aload_n 1, 1) := by decide +kernel
theorem dX6_keepState_69 : decode cX6_keepState 69 = .ok (.aload_n 0, 1) := by decide +kernel
theorem dX6_keepState_70 : decode cX6_keepState 70 = .ok (.getfield 10, 3) := by decide +kernel
theorem dX6_keepState_73 : decode cX6_keepState 73 = .ok (.invokevirtual 216, 3) := by decide +kernel
theorem dX6_keepState_76 : decode cX6_keepState 76 = .ok (.aload_n 0, 1) := by decide +kernel
theorem dX6_keepState_77 : decode cX6_keepState 77 = .ok (.dup, 1) := by decide +kernel
theorem dX6_keepState_78 : decode cX6_keepState 78 = .ok (.getfield 254, 3) := by decide +kernel
theorem dX6_keepState_81 : decode cX6_keepState 81 = .ok (.iconst 1, 1) := by decide +kernel
theorem dX6_keepState_82 : decode cX6_keepState 82 = .ok (.iadd, 1) := by decide +kernel
theorem dX6_keepState_83 : decode cX6_keepState 83 = .ok (.putfield 254, 3) := by decide +kernel
theorem dX6_keepState_86 : decode cX6_keepState 86 = .ok (.return_, 1) := by decide +kernel
theorem dX6_findFault_0 : decode cX6_findFault 0 = .ok (.iconst 0, 1) := by decide +kernel
theorem dX6_findFault_1 : decode cX6_findFault 1 = .ok (.istore_n 1, 1) := by decide +kernel
theorem dX6_findFault_2 : decode cX6_findFault 2 = .ok (.iconst 0, 1) := by decide +kernel
theorem dX6_findFault_3 : decode cX6_findFault 3 = .ok (.istore_n 2, 1) := by decide +kernel
theorem dX6_findFault_4 : decode cX6_findFault 4 = .ok (.iload_n 2, 1) := by decide +kernel
theorem dX6_findFault_5 : decode cX6_findFault 5 = .ok (.bipush 60, 2) := by decide +kernel
theorem dX6_findFault_7 : decode cX6_findFault 7 = .ok (.if_icmp .ge 65, 3) := by decide +kernel
theorem dX6_findFault_10 : decode cX6_findFault 10 = .ok (.iload_n 1, 1) := by decide +kernel
theorem dX6_findFault_11 : decode cX6_findFault 11 = .ok (.aload_n 0, 1) := by decide +kernel
theorem dX6_findFault_12 : decode cX6_findFault 12 = .ok (.getfield 257, 3) := by decide +kernel
theorem dX6_findFault_15 : decode cX6_findFault 15 = .ok (.if_icmp .ge 57, 3) := by decide +kernel
theorem dX6_findFault_18 : decode cX6_findFault 18 = .ok (.aload_n 0, 1) := by decide +kernel
theorem dX6_findFault_19 : decode cX6_findFault 19 = .ok (.getfield 29, 3) := by decide +kernel
theorem dX6_findFault_22 : decode cX6_findFault 22 = .ok (.aload_n 0, 1) := by decide +kernel
theorem dX6_findFault_23 : decode cX6_findFault 23 = .ok (.getfield 37, 3) := by decide +kernel
theorem dX6_findFault_26 : decode cX6_findFault 26 = .ok (.aload_n 0, 1) := by decide +kernel
theorem dX6_findFault_27 : decode cX6_findFault 27 = .ok (.getfield 257, 3) := by decide +kernel
theorem dX6_findFault_30 : decode cX6_findFault 30 = .ok (.iload_n 1, 1) := by decide +kernel
theorem dX6_findFault_31 : decode cX6_findFault 31 = .ok (.invokevirtual 271, 3) := by decide +kernel
theorem dX6_findFault_34 : decode cX6_findFault 34 = .ok (.aload_n 0, 1) := by decide +kernel
theorem dX6_findFault_35 : decode cX6_findFault 35 = .ok (.getfield 29, 3) := by decide +kernel
theorem dX6_findFault_38 : decode cX6_findFault 38 = .ok (.getfield 264, 3) := by decide +kernel
theorem dX6_findFault_41 : decode cX6_findFault 41 = .ok (.ifCond .ne 13, 3) := by decide +kernel
theorem dX6_findFault_44 : decode cX6_findFault 44 = .ok (.aload_n 0, 1) := by decide +kernel
theorem dX6_findFault_45 : decode cX6_findFault 45 = .ok (.getfield 29, 3) := by decide +kernel
theorem dX6_findFault_48 : decode cX6_findFault 48 = .ok (.invokestatic 282, 3) := by decide +kernel
theorem dX6_findFault_51 : decode cX6_findFault 51 = .ok (.ifCond .ne 5, 3) := by decide +kernel
theorem dX6_findFault_54 : decode cX6_findFault 54 = .ok (.iload_n 1, 1) := by decide +kernel
theorem dX6_findFault_55 : decode cX6_findFault 55 = .ok (.ireturn, 1) := by decide +kernel
theorem dX6_findFault_56 : decode cX6_findFault 56 = .ok (.iload_n 1, 1) := by decide +kernel
theorem dX6_findFault_57 : decode cX6_findFault 57 = .ok (.aload_n 0, 1) := by decide +kernel
theorem dX6_findFault_58 : decode cX6_findFault 58 = .ok (.getfield 29, 3) := by decide +kernel
theorem dX6_findFault_61 : decode cX6_findFault 61 = .ok (.getfield 268, 3) := by decide +kernel
theorem dX6_findFault_64 : decode cX6_findFault 64 = .ok (.iadd, 1) := by decide +kernel
theorem dX6_findFault_65 : decode cX6_findFault 65 = .ok (.istore_n 1, 1) := by decide +kernel
theorem dX6_findFault_66 : decode cX6_findFault 66 = .ok (.iinc 2 1, 3) := by decide +kernel
theorem dX6_findFault_69 : decode cX6_findFault 69 = .ok (.goto (-65), 3) := by decide +kernel
theorem dX6_findFault_72 : decode cX6_findFault 72 = .ok (.iconst (-1), 1) := by decide +kernel
theorem dX6_findFault_73 : decode cX6_findFault 73 = .ok (.ireturn, 1) := by decide +kernel
theorem dX6_mayDo_0 : decode cX6_mayDo 0 = .ok (.aload_n 0, 1) := by decide +kernel
theorem dX6_mayDo_1 : decode cX6_mayDo 1 = .ok (.getfield 275, 3) := by decide +kernel
theorem dX6_mayDo_4 : decode cX6_mayDo 4 = .ok (.astore_n 1, 1) := by decide +kernel
theorem dX6_mayDo_5 : decode cX6_mayDo 5 = .ok (.aload_n 0, 1) := by decide +kernel
theorem dX6_mayDo_6 : decode cX6_mayDo 6 = .ok (.getfield 278, 3) := by decide +kernel
theorem dX6_mayDo_9 : decode cX6_mayDo 9 = .ok (.lookupswitch 95 #[(97, 82), (98, 68), (112, 75), (114, 61), (119, 51)], 51) := by decide +kernel
theorem dX6_mayDo_60 : decode cX6_mayDo 60 = .ok (.aload_n 1, 1) := by decide +kernel
theorem dX6_mayDo_61 : decode cX6_mayDo 61 = .ok (.iconst 0, 1) := by decide +kernel
theorem dX6_mayDo_62 : decode cX6_mayDo 62 = .ok (.iaload, 1) := by decide +kernel
theorem dX6_mayDo_63 : decode cX6_mayDo 63 = .ok (.aload_n 1, 1) := by decide +kernel
theorem dX6_mayDo_64 : decode cX6_mayDo 64 = .ok (.iconst 1, 1) := by decide +kernel
theorem dX6_mayDo_65 : decode cX6_mayDo 65 = .ok (.iaload, 1) := by decide +kernel
theorem dX6_mayDo_66 : decode cX6_mayDo 66 = .ok (.invokestatic 41, 3) := by decide +kernel
theorem dX6_mayDo_69 : decode cX6_mayDo 69 = .ok (.ireturn, 1) := by decide +kernel
theorem dX6_mayDo_70 : decode cX6_mayDo 70 = .ok (.aload_n 1, 1) := by decide +kernel
theorem dX6_mayDo_71 : decode cX6_mayDo 71 = .ok (.iconst 0, 1) := by decide +kernel
theorem dX6_mayDo_72 : decode cX6_mayDo 72 = .ok (.iaload, 1) := by decide +kernel
theorem dX6_mayDo_73 : decode cX6_mayDo 73 = .ok (.invokestatic 53, 3) := by decide +kernel
theorem dX6_mayDo_76 : decode cX6_mayDo 76 = .ok (.ireturn, 1) := by decide +kernel
theorem dX6_mayDo_77 : decode cX6_mayDo 77 = .ok (.aload_n 1, 1) := by decide +kernel
theorem dX6_mayDo_78 : decode cX6_mayDo 78 = .ok (.iconst 0, 1) := by decide +kernel
theorem dX6_mayDo_79 : decode cX6_mayDo 79 = .ok (.iaload, 1) := by decide +kernel
theorem dX6_mayDo_80 : decode cX6_mayDo 80 = .ok (.invokestatic 61, 3) := by decide +kernel
theorem dX6_mayDo_83 : decode cX6_mayDo 83 = .ok (.ireturn, 1) := by decide +kernel
theorem dX6_mayDo_84 : decode cX6_mayDo 84 = .ok (.aload_n 1, 1) := by decide +kernel
theorem dX6_mayDo_85 : decode cX6_mayDo 85 = .ok (.iconst 0, 1) := by decide +kernel
theorem dX6_mayDo_86 : decode cX6_mayDo 86 = .ok (.iaload, 1) := by decide +kernel
theorem dX6_mayDo_87 : decode cX6_mayDo 87 = .ok (.invokestatic 72, 3) := by decide +kernel
theorem dX6_mayDo_90 : decode cX6_mayDo 90 = .ok (.ireturn, 1) := by decide +kernel
theorem dX6_mayDo_91 : decode cX6_mayDo 91 = .ok (.aload_n 1, 1) := by decide +kernel
theorem dX6_mayDo_92 : decode cX6_mayDo 92 = .ok (.iconst 0, 1) := by decide +kernel
theorem dX6_mayDo_93 : decode cX6_mayDo 93 = .ok (.iaload, 1) := by decide +kernel
theorem dX6_mayDo_94 : decode cX6_mayDo 94 = .ok (.aload_n 1, 1) := by decide +kernel
theorem dX6_mayDo_95 : decode cX6_mayDo 95 = .ok (.iconst 1, 1) := by decide +kernel
theorem dX6_mayDo_96 : decode cX6_mayDo 96 = .ok (.iaload, 1) := by decide +kernel
theorem dX6_mayDo_97 : decode cX6_mayDo 97 = .ok (.aload_n 1, 1) := by decide +kernel
theorem dX6_mayDo_98 : decode cX6_mayDo 98 = .ok (.iconst 2, 1) := by decide +kernel
theorem dX6_mayDo_99 : decode cX6_mayDo 99 = .ok (.iaload, 1) := by decide +kernel
theorem dX6_mayDo_100 : decode cX6_mayDo 100 = .ok (.invokestatic 78, 3) := by decide +kernel
theorem dX6_mayDo_103 : decode cX6_mayDo 103 = .ok (.ireturn, 1) := by decide +kernel
theorem dX6_mayDo_104 : decode cX6_mayDo 104 = .ok (.aload_n 1, 1) := by decide +kernel
theorem dX6_mayDo_105 : decode cX6_mayDo 105 = .ok (.iconst 0, 1) := by decide +kernel
theorem dX6_mayDo_106 : decode cX6_mayDo 106 = .ok (.iaload, 1) := by decide +kernel
theorem dX6_mayDo_107 : decode cX6_mayDo 107 = .ok (.invokestatic 92, 3) := by decide +kernel
theorem dX6_mayDo_110 : decode cX6_mayDo 110 = .ok (.ifCond .eq 19, 3) := by decide +kernel
theorem dX6_mayDo_113 : decode cX6_mayDo 113 = .ok (.aload_n 1, 1) := by decide +kernel
theorem dX6_mayDo_114 : decode cX6_mayDo 114 = .ok (.iconst 1, 1) := by decide +kernel
theorem dX6_mayDo_115 : decode cX6_mayDo 115 = .ok (.iaload, 1) := by decide +kernel
theorem dX6_mayDo_116 : decode cX6_mayDo 116 = .ok (.iconst 0, 1) := by decide +kernel
theorem dX6_mayDo_117 : decode cX6_mayDo 117 = .ok (.bipush 31, 2) := by decide +kernel
theorem dX6_mayDo_119 : decode cX6_mayDo 119 = .ok (.invokestatic 95, 3) := by decide +kernel
theorem dX6_mayDo_122 : decode cX6_mayDo 122 = .ok (.ifCond .eq 7, 3) := by decide +kernel
theorem dX6_mayDo_125 : decode cX6_mayDo 125 = .ok (.iconst 1, 1) := by decide +kernel
theorem dX6_mayDo_126 : decode cX6_mayDo 126 = .ok (.goto 4, 3) := by decide +kernel
theorem dX6_mayDo_129 : decode cX6_mayDo 129 = .ok (.iconst 0, 1) := by decide +kernel
theorem dX6_mayDo_130 : decode cX6_mayDo 130 = .ok (.ireturn, 1) := by decide +kernel
theorem dX6_mayWrite_0 : decode cX6_mayWrite 0 = .ok (.iload_n 0, 1) := by decide +kernel
theorem dX6_mayWrite_1 : decode cX6_mayWrite 1 = .ok (.invokestatic 53, 3) := by decide +kernel
theorem dX6_mayWrite_4 : decode cX6_mayWrite 4 = .ok (.ifCond .eq 18, 3) := by decide +kernel
theorem dX6_mayWrite_7 : decode cX6_mayWrite 7 = .ok (.iload_n 1, 1) := by decide +kernel
theorem dX6_mayWrite_8 : decode cX6_mayWrite 8 = .ok (.iconst 0, 1) := by decide +kernel
theorem dX6_mayWrite_9 : decode cX6_mayWrite 9 = .ok (.sipush 255, 3) := by decide +kernel
theorem dX6_mayWrite_12 : decode cX6_mayWrite 12 = .ok (.invokestatic 95, 3) := by decide +kernel
theorem dX6_mayWrite_15 : decode cX6_mayWrite 15 = .ok (.ifCond .eq 7, 3) := by decide +kernel
theorem dX6_mayWrite_18 : decode cX6_mayWrite 18 = .ok (.iconst 1, 1) := by decide +kernel
theorem dX6_mayWrite_19 : decode cX6_mayWrite 19 = .ok (.goto 4, 3) := by decide +kernel
theorem dX6_mayWrite_22 : decode cX6_mayWrite 22 = .ok (.iconst 0, 1) := by decide +kernel
theorem dX6_mayWrite_23 : decode cX6_mayWrite 23 = .ok (.ireturn, 1) := by decide +kernel
theorem dX6_mayPass_0 : decode cX6_mayPass 0 = .ok (.iload_n 0, 1) := by decide +kernel
theorem dX6_mayPass_1 : decode cX6_mayPass 1 = .ok (.iconst 1, 1) := by decide +kernel
theorem dX6_mayPass_2 : decode cX6_mayPass 2 = .ok (.sipush 9999, 3) := by decide +kernel
theorem dX6_mayPass_5 : decode cX6_mayPass 5 = .ok (.invokestatic 95, 3) := by decide +kernel
theorem dX6_mayPass_8 : decode cX6_mayPass 8 = .ok (.ireturn, 1) := by decide +kernel
theorem dX6_mayChangeAlarm_0 : decode cX6_mayChangeAlarm 0 = .ok (.iload_n 0, 1) := by decide +kernel
theorem dX6_mayChangeAlarm_1 : decode cX6_mayChangeAlarm 1 = .ok (.invokestatic 92, 3) := by decide +kernel
theorem dX6_mayChangeAlarm_4 : decode cX6_mayChangeAlarm 4 = .ok (.ifCond .eq 27, 3) := by decide +kernel
theorem dX6_mayChangeAlarm_7 : decode cX6_mayChangeAlarm 7 = .ok (.iload_n 1, 1) := by decide +kernel
theorem dX6_mayChangeAlarm_8 : decode cX6_mayChangeAlarm 8 = .ok (.iconst 0, 1) := by decide +kernel
theorem dX6_mayChangeAlarm_9 : decode cX6_mayChangeAlarm 9 = .ok (.iconst 4, 1) := by decide +kernel
theorem dX6_mayChangeAlarm_10 : decode cX6_mayChangeAlarm 10 = .ok (.invokestatic 95, 3) := by decide +kernel
theorem dX6_mayChangeAlarm_13 : decode cX6_mayChangeAlarm 13 = .ok (.ifCond .eq 18, 3) := by decide +kernel
theorem dX6_mayChangeAlarm_16 : decode cX6_mayChangeAlarm 16 = .ok (.iload_n 2, 1) := by decide +kernel
theorem dX6_mayChangeAlarm_17 : decode cX6_mayChangeAlarm 17 = .ok (.iconst 0, 1) := by decide +kernel
theorem dX6_mayChangeAlarm_18 : decode cX6_mayChangeAlarm 18 = .ok (.sipush 255, 3) := by decide +kernel
theorem dX6_mayChangeAlarm_21 : decode cX6_mayChangeAlarm 21 = .ok (.invokestatic 95, 3) := by decide +kernel
theorem dX6_mayChangeAlarm_24 : decode cX6_mayChangeAlarm 24 = .ok (.ifCond .eq 7, 3) := by decide +kernel
theorem dX6_mayChangeAlarm_27 : decode cX6_mayChangeAlarm 27 = .ok (.iconst 1, 1) := by decide +kernel
theorem dX6_mayChangeAlarm_28 : decode cX6_mayChangeAlarm 28 = .ok (.goto 4, 3) := by decide +kernel
theorem dX6_mayChangeAlarm_31 : decode cX6_mayChangeAlarm 31 = .ok (.iconst 0, 1) := by decide +kernel
theorem dX6_mayChangeAlarm_32 : decode cX6_mayChangeAlarm 32 = .ok (.ireturn, 1) := by decide +kernel
theorem dX6_isRegister_0 : decode cX6_isRegister 0 = .ok (.iload_n 0, 1) := by decide +kernel
theorem dX6_isRegister_1 : decode cX6_isRegister 1 = .ok (.iconst 0, 1) := by decide +kernel
theorem dX6_isRegister_2 : decode cX6_isRegister 2 = .ok (.bipush 6, 2) := by decide +kernel
theorem dX6_isRegister_4 : decode cX6_isRegister 4 = .ok (.invokestatic 95, 3) := by decide +kernel
theorem dX6_isRegister_7 : decode cX6_isRegister 7 = .ok (.ireturn, 1) := by decide +kernel
theorem dX6_isCell_0 : decode cX6_isCell 0 = .ok (.iload_n 0, 1) := by decide +kernel
theorem dX6_isCell_1 : decode cX6_isCell 1 = .ok (.invokestatic 53, 3) := by decide +kernel
theorem dX6_isCell_4 : decode cX6_isCell 4 = .ok (.ifCond .eq 17, 3) := by decide +kernel
theorem dX6_isCell_7 : decode cX6_isCell 7 = .ok (.iload_n 1, 1) := by decide +kernel
theorem dX6_isCell_8 : decode cX6_isCell 8 = .ok (.iconst 0, 1) := by decide +kernel
theorem dX6_isCell_9 : decode cX6_isCell 9 = .ok (.bipush 7, 2) := by decide +kernel
theorem dX6_isCell_11 : decode cX6_isCell 11 = .ok (.invokestatic 95, 3) := by decide +kernel
theorem dX6_isCell_14 : decode cX6_isCell 14 = .ok (.ifCond .eq 7, 3) := by decide +kernel
theorem dX6_isCell_17 : decode cX6_isCell 17 = .ok (.iconst 1, 1) := by decide +kernel
theorem dX6_isCell_18 : decode cX6_isCell 18 = .ok (.goto 4, 3) := by decide +kernel
theorem dX6_isCell_21 : decode cX6_isCell 21 = .ok (.iconst 0, 1) := by decide +kernel
theorem dX6_isCell_22 : decode cX6_isCell 22 = .ok (.ireturn, 1) := by decide +kernel
theorem dX6_isAlarm_0 : decode cX6_isAlarm 0 = .ok (.iload_n 0, 1) := by decide +kernel
theorem dX6_isAlarm_1 : decode cX6_isAlarm 1 = .ok (.iconst 0, 1) := by decide +kernel
theorem dX6_isAlarm_2 : decode cX6_isAlarm 2 = .ok (.iconst 2, 1) := by decide +kernel
theorem dX6_isAlarm_3 : decode cX6_isAlarm 3 = .ok (.invokestatic 95, 3) := by decide +kernel
theorem dX6_isAlarm_6 : decode cX6_isAlarm 6 = .ok (.ireturn, 1) := by decide +kernel
theorem dX6_isMode_0 : decode cX6_isMode 0 = .ok (.iload_n 0, 1) := by decide +kernel
theorem dX6_isMode_1 : decode cX6_isMode 1 = .ok (.iconst 0, 1) := by decide +kernel
theorem dX6_isMode_2 : decode cX6_isMode 2 = .ok (.iconst 2, 1) := by decide +kernel
theorem dX6_isMode_3 : decode cX6_isMode 3 = .ok (.invokestatic 95, 3) := by decide +kernel
theorem dX6_isMode_6 : decode cX6_isMode 6 = .ok (.ireturn, 1) := by decide +kernel
theorem dX6_isWithin_0 : decode cX6_isWithin 0 = .ok (.iload_n 0, 1) := by decide +kernel
theorem dX6_isWithin_1 : decode cX6_isWithin 1 = .ok (.iload_n 1, 1) := by decide +kernel
theorem dX6_isWithin_2 : decode cX6_isWithin 2 = .ok (.if_icmp .lt 12, 3) := by decide +kernel
theorem dX6_isWithin_5 : decode cX6_isWithin 5 = .ok (.iload_n 0, 1) := by decide +kernel
theorem dX6_isWithin_6 : decode cX6_isWithin 6 = .ok (.iload_n 2, 1) := by decide +kernel
theorem dX6_isWithin_7 : decode cX6_isWithin 7 = .ok (.if_icmp .gt 7, 3) := by decide +kernel
theorem dX6_isWithin_10 : decode cX6_isWithin 10 = .ok (.iconst 1, 1) := by decide +kernel
theorem dX6_isWithin_11 : decode cX6_isWithin 11 = .ok (.goto 4, 3) := by decide +kernel
theorem dX6_isWithin_14 : decode cX6_isWithin 14 = .ok (.iconst 0, 1) := by decide +kernel
theorem dX6_isWithin_15 : decode cX6_isWithin 15 = .ok (.ireturn, 1) := by decide +kernel
theorem dX6_bitOf_0 : decode cX6_bitOf 0 = .ok (.iload_n 0, 1) := by decide +kernel
theorem dX6_bitOf_1 : decode cX6_bitOf 1 = .ok (.iload_n 1, 1) := by decide +kernel
theorem dX6_bitOf_2 : decode cX6_bitOf 2 = .ok (.ishr, 1) := by decide +kernel
theorem dX6_bitOf_3 : decode cX6_bitOf 3 = .ok (.iconst 1, 1) := by decide +kernel
theorem dX6_bitOf_4 : decode cX6_bitOf 4 = .ok (.iand, 1) := by decide +kernel
theorem dX6_bitOf_5 : decode cX6_bitOf 5 = .ok (.ireturn, 1) := by decide +kernel
theorem dX6_numberOf_0 : decode cX6_numberOf 0 = .ok (.bipush 10, 2) := by decide +kernel
theorem dX6_numberOf_2 : decode cX6_numberOf 2 = .ok (.iload_n 0, 1) := by decide +kernel
theorem dX6_numberOf_3 : decode cX6_numberOf 3 = .ok (.iconst 4, 1) := by decide +kernel
theorem dX6_numberOf_4 : decode cX6_numberOf 4 = .ok (.ishr, 1) := by decide +kernel
theorem dX6_numberOf_5 : decode cX6_numberOf 5 = .ok (.imul, 1) := by decide +kernel
theorem dX6_numberOf_6 : decode cX6_numberOf 6 = .ok (.iload_n 0, 1) := by decide +kernel
theorem dX6_numberOf_7 : decode cX6_numberOf 7 = .ok (.bipush 15, 2) := by decide +kernel
theorem dX6_numberOf_9 : decode cX6_numberOf 9 = .ok (.iand, 1) := by decide +kernel
theorem dX6_numberOf_10 : decode cX6_numberOf 10 = .ok (.iadd, 1) := by decide +kernel
theorem dX6_numberOf_11 : decode cX6_numberOf 11 = .ok (.ireturn, 1) := by decide +kernel
theorem dX6_bitsOfShare_0 : decode cX6_bitsOfShare 0 = .ok (.fload_n 0, 1) := by decide +kernel
theorem dX6_bitsOfShare_1 : decode cX6_bitsOfShare 1 = .ok (.fconst 0, 1) := by decide +kernel
theorem dX6_bitsOfShare_2 : decode cX6_bitsOfShare 2 = .ok (.fcmp .g, 1) := by decide +kernel
theorem dX6_bitsOfShare_3 : decode cX6_bitsOfShare 3 = .ok (.ifCond .gt 5, 3) := by decide +kernel
theorem dX6_bitsOfShare_6 : decode cX6_bitsOfShare 6 = .ok (.iconst 0, 1) := by decide +kernel
theorem dX6_bitsOfShare_7 : decode cX6_bitsOfShare 7 = .ok (.ireturn, 1) := by decide +kernel
theorem dX6_bitsOfShare_8 : decode cX6_bitsOfShare 8 = .ok (.fload_n 0, 1) := by decide +kernel
theorem dX6_bitsOfShare_9 : decode cX6_bitsOfShare 9 = .ok (.fstore_n 1, 1) := by decide +kernel
theorem dX6_bitsOfShare_10 : decode cX6_bitsOfShare 10 = .ok (.bipush 127, 2) := by decide +kernel
theorem dX6_bitsOfShare_12 : decode cX6_bitsOfShare 12 = .ok (.istore_n 2, 1) := by decide +kernel
theorem dX6_bitsOfShare_13 : decode cX6_bitsOfShare 13 = .ok (.iload_n 2, 1) := by decide +kernel
theorem dX6_bitsOfShare_14 : decode cX6_bitsOfShare 14 = .ok (.iconst 1, 1) := by decide +kernel
theorem dX6_bitsOfShare_15 : decode cX6_bitsOfShare 15 = .ok (.if_icmp .le 19, 3) := by decide +kernel
theorem dX6_bitsOfShare_18 : decode cX6_bitsOfShare 18 = .ok (.fload_n 1, 1) := by decide +kernel
theorem dX6_bitsOfShare_19 : decode cX6_bitsOfShare 19 = .ok (.fconst 1, 1) := by decide +kernel
theorem dX6_bitsOfShare_20 : decode cX6_bitsOfShare 20 = .ok (.fcmp .g, 1) := by decide +kernel
theorem dX6_bitsOfShare_21 : decode cX6_bitsOfShare 21 = .ok (.ifCond .ge 13, 3) := by decide +kernel
theorem dX6_bitsOfShare_24 : decode cX6_bitsOfShare 24 = .ok (.fload_n 1, 1) := by decide +kernel
theorem dX6_bitsOfShare_25 : decode cX6_bitsOfShare 25 = .ok (.fconst 2, 1) := by decide +kernel
theorem dX6_bitsOfShare_26 : decode cX6_bitsOfShare 26 = .ok (.fmul, 1) := by decide +kernel
theorem dX6_bitsOfShare_27 : decode cX6_bitsOfShare 27 = .ok (.fstore_n 1, 1) := by decide +kernel
theorem dX6_bitsOfShare_28 : decode cX6_bitsOfShare 28 = .ok (.iinc 2 (-1), 3) := by decide +kernel
theorem dX6_bitsOfShare_31 : decode cX6_bitsOfShare 31 = .ok (.goto (-18), 3) := by decide +kernel
theorem dX6_bitsOfShare_34 : decode cX6_bitsOfShare 34 = .ok (.iload_n 2, 1) := by decide +kernel
theorem dX6_bitsOfShare_35 : decode cX6_bitsOfShare 35 = .ok (.bipush 23, 2) := by decide +kernel
theorem dX6_bitsOfShare_37 : decode cX6_bitsOfShare 37 = .ok (.ishl, 1) := by decide +kernel
theorem dX6_bitsOfShare_38 : decode cX6_bitsOfShare 38 = .ok (.fload_n 1, 1) := by decide +kernel
theorem dX6_bitsOfShare_39 : decode cX6_bitsOfShare 39 = .ok (.ldc_w 286, 3) := by decide +kernel
theorem dX6_bitsOfShare_42 : decode cX6_bitsOfShare 42 = .ok (.fmul, 1) := by decide +kernel
theorem dX6_bitsOfShare_43 : decode cX6_bitsOfShare 43 = .ok (.f2i, 1) := by decide +kernel
theorem dX6_bitsOfShare_44 : decode cX6_bitsOfShare 44 = .ok (.iadd, 1) := by decide +kernel
theorem dX6_bitsOfShare_45 : decode cX6_bitsOfShare 45 = .ok (.ldc_w 287, 3) := by decide +kernel
theorem dX6_bitsOfShare_48 : decode cX6_bitsOfShare 48 = .ok (.isub, 1) := by decide +kernel
theorem dX6_bitsOfShare_49 : decode cX6_bitsOfShare 49 = .ok (.ireturn, 1) := by decide +kernel
theorem dX7_init_0 : decode cX7_init 0 = .ok (.aload_n 0, 1) := by decide +kernel
theorem dX7_init_1 : decode cX7_init 1 = .ok (.invokespecial 1, 3) := by decide +kernel
theorem dX7_init_4 : decode cX7_init 4 = .ok (.aload_n 0, 1) := by decide +kernel
theorem dX7_init_5 : decode cX7_init 5 = .ok (.bipush 127, 2) := by decide +kernel
theorem dX7_init_7 : decode cX7_init 7 = .ok (.newarray .int, 2) := by decide +kernel
theorem dX7_init_9 : decode cX7_init 9 = .ok (.putfield 7, 3) := by decide +kernel
theorem dX7_init_12 : decode cX7_init 12 = .ok (.aload_n 0, 1) := by decide +kernel
theorem dX7_init_13 : decode cX7_init 13 = .ok (.sipush 508, 3) := by decide +kernel
theorem dX7_init_16 : decode cX7_init 16 = .ok (.newarray .int, 2) := by decide +kernel
theorem dX7_init_18 : decode cX7_init 18 = .ok (.putfield 13, 3) := by decide +kernel
theorem dX7_init_21 : decode cX7_init 21 = .ok (.aload_n 0, 1) := by decide +kernel
theorem dX7_init_22 : decode cX7_init 22 = .ok (.bipush 127, 2) := by decide +kernel
theorem dX7_init_24 : decode cX7_init 24 = .ok (.newarray .int, 2) := by decide +kernel
theorem dX7_init_26 : decode cX7_init 26 = .ok (.putfield 16, 3) := by decide +kernel
theorem dX7_init_29 : decode cX7_init 29 = .ok (.aload_n 0, 1) := by decide +kernel
theorem dX7_init_30 : decode cX7_init 30 = .ok (.bipush 127, 2) := by decide +kernel
theorem dX7_init_32 : decode cX7_init 32 = .ok (.newarray .int, 2) := by decide +kernel
theorem dX7_init_34 : decode cX7_init 34 = .ok (.putfield 19, 3) := by decide +kernel
theorem dX7_init_37 : decode cX7_init 37 = .ok (.aload_n 0, 1) := by decide +kernel
theorem dX7_init_38 : decode cX7_init 38 = .ok (.bipush 60, 2) := by decide +kernel
theorem dX7_init_40 : decode cX7_init 40 = .ok (.newarray .int, 2) := by decide +kernel
theorem dX7_init_42 : decode cX7_init 42 = .ok (.putfield 22, 3) := by decide +kernel
theorem dX7_init_45 : decode cX7_init 45 = .ok (.aload_n 0, 1) := by decide +kernel
theorem dX7_init_46 : decode cX7_init 46 = .ok (.bipush 7, 2) := by decide +kernel
theorem dX7_init_48 : decode cX7_init 48 = .ok (.newarray .int, 2) := by decide +kernel
theorem dX7_init_50 : decode cX7_init 50 = .ok (.putfield 25, 3) := by decide +kernel
theorem dX7_init_53 : decode cX7_init 53 = .ok (.aload_n 0, 1) := by decide +kernel
theorem dX7_init_54 : decode cX7_init 54 = .ok (.bipush 7, 2) := by decide +kernel
theorem dX7_init_56 : decode cX7_init 56 = .ok (.newarray .int, 2) := by decide +kernel
theorem dX7_init_58 : decode cX7_init 58 = .ok (.putfield 28, 3) := by decide +kernel
theorem dX7_init_61 : decode cX7_init 61 = .ok (.aload_n 0, 1) := by decide +kernel
theorem dX7_init_62 : decode cX7_init 62 = .ok (.bipush 105, 2) := by decide +kernel
theorem dX7_init_64 : decode cX7_init 64 = .ok (.newarray .int, 2) := by decide +kernel
theorem dX7_init_66 : decode cX7_init 66 = .ok (.putfield 31, 3) := by decide +kernel
theorem dX7_init_69 : decode cX7_init 69 = .ok (.aload_n 0, 1) := by decide +kernel
theorem dX7_init_70 : decode cX7_init 70 = .ok (.iconst 3, 1) := by decide +kernel
theorem dX7_init_71 : decode cX7_init 71 = .ok (.newarray .int, 2) := by decide +kernel
theorem dX7_init_73 : decode cX7_init 73 = .ok (.putfield 34, 3) := by decide +kernel
theorem dX7_init_76 : decode cX7_init 76 = .ok (.aload_n 0, 1) := by decide +kernel
theorem dX7_init_77 : decode cX7_init 77 = .ok (.getfield 7, 3) := by decide +kernel
theorem dX7_init_80 : decode cX7_init 80 = .ok (.iconst 3, 1) := by decide +kernel
theorem dX7_init_81 : decode cX7_init 81 = .ok (.bipush 6, 2) := by decide +kernel
theorem dX7_init_83 : decode cX7_init 83 = .ok (.iastore, 1) := by decide +kernel
theorem dX7_init_84 : decode cX7_init 84 = .ok (.aload_n 0, 1) := by decide +kernel
theorem dX7_init_85 : decode cX7_init 85 = .ok (.getfield 7, 3) := by decide +kernel
theorem dX7_init_88 : decode cX7_init 88 = .ok (.iconst 4, 1) := by decide +kernel
theorem dX7_init_89 : decode cX7_init 89 = .ok (.iconst 1, 1) := by decide +kernel
theorem dX7_init_90 : decode cX7_init 90 = .ok (.iastore, 1) := by decide +kernel
theorem dX7_init_91 : decode cX7_init 91 = .ok (.aload_n 0, 1) := by decide +kernel
theorem dX7_init_92 : decode cX7_init 92 = .ok (.getfield 7, 3) := by decide +kernel
theorem dX7_init_95 : decode cX7_init 95 = .ok (.iconst 5, 1) := by decide +kernel
theorem dX7_init_96 : decode cX7_init 96 = .ok (.iconst 1, 1) := by decide +kernel
theorem dX7_init_97 : decode cX7_init 97 = .ok (.iastore, 1) := by decide +kernel
theorem dX7_init_98 : decode cX7_init 98 = .ok (.aload_n 0, 1) := by decide +kernel
theorem dX7_init_99 : decode cX7_init 99 = .ok (.getfield 7, 3) := by decide +kernel
theorem dX7_init_102 : decode cX7_init 102 = .ok (.bipush 37, 2) := by decide +kernel
theorem dX7_init_104 : decode cX7_init 104 = .ok (.iconst 2, 1) := by decide +kernel
theorem dX7_init_105 : decode cX7_init 105 = .ok (.iastore, 1) := by decide +kernel
theorem dX7_init_106 : decode cX7_init 106 = .ok (.aload_n 0, 1) := by decide +kernel
theorem dX7_init_107 : decode cX7_init 107 = .ok (.getfield 7, 3) := by decide +kernel
theorem dX7_init_110 : decode cX7_init 110 = .ok (.bipush 39, 2) := by decide +kernel
theorem dX7_init_112 : decode cX7_init 112 = .ok (.bipush 16, 2) := by decide +kernel
theorem dX7_init_114 : decode cX7_init 114 = .ok (.iastore, 1) := by decide +kernel
theorem dX7_init_115 : decode cX7_init 115 = .ok (.return_, 1) := by decide +kernel
theorem dX7_in_0 : decode cX7_in 0 = .ok (.iload_n 0, 1) := by decide +kernel
theorem dX7_in_1 : decode cX7_in 1 = .ok (.iload_n 1, 1) := by decide +kernel
theorem dX7_in_2 : decode cX7_in 2 = .ok (.if_icmp .lt 12, 3) := by decide +kernel
theorem dX7_in_5 : decode cX7_in 5 = .ok (.iload_n 0, 1) := by decide +kernel
theorem dX7_in_6 : decode cX7_in 6 = .ok (.iload_n 2, 1) := by decide +kernel
theorem dX7_in_7 : decode cX7_in 7 = .ok (.if_icmp .gt 7, 3) := by decide +kernel
theorem dX7_in_10 : decode cX7_in 10 = .ok (.iconst 1, 1) := by decide +kernel
theorem dX7_in_11 : decode cX7_in 11 = .ok (.goto 4, 3) := by decide +kernel
theorem dX7_in_14 : decode cX7_in 14 = .ok (.iconst 0, 1) := by decide +kernel
theorem dX7_in_15 : decode cX7_in 15 = .ok (.ireturn, 1) := by decide +kernel
theorem dX7_copies_0 : decode cX7_copies 0 = .ok (.iconst 0, 1) := by decide +kernel
theorem dX7_copies_1 : decode cX7_copies 1 = .ok (.istore_n 2, 1) := by decide +kernel
theorem dX7_copies_2 : decode cX7_copies 2 = .ok (.iload_n 2, 1) := by decide +kernel
theorem dX7_copies_3 : decode cX7_copies 3 = .ok (.bipush 127, 2) := by decide +kernel
theorem dX7_copies_5 : decode cX7_copies 5 = .ok (.if_icmp .ge 15, 3) := by decide +kernel
theorem dX7_copies_8 : decode cX7_copies 8 = .ok (.aload_n 1, 1) := by decide +kernel
theorem dX7_copies_9 : decode cX7_copies 9 = .ok (.iload_n 2, 1) := by decide +kernel
theorem dX7_copies_10 : decode cX7_copies 10 = .ok (.aload_n 0, 1) := by decide +kernel
theorem dX7_copies_11 : decode cX7_copies 11 = .ok (.iload_n 2, 1) := by decide +kernel
theorem dX7_copies_12 : decode cX7_copies 12 = .ok (.iaload, 1) := by decide +kernel
theorem dX7_copies_13 : decode cX7_copies 13 = .ok (.iastore, 1) := by decide +kernel
theorem dX7_copies_14 : decode cX7_copies 14 = .ok (.iinc 2 1, 3) := by decide +kernel
theorem dX7_copies_17 : decode cX7_copies 17 = .ok (.goto (-15), 3) := by decide +kernel
theorem dX7_copies_20 : decode cX7_copies 20 = .ok (.return_, 1) := by decide +kernel
theorem dX7_changes_0 : decode cX7_changes 0 = .ok (.aload_n 0, 1) := by decide +kernel
theorem dX7_changes_1 : decode cX7_changes 1 = .ok (.getfield 37, 3) := by decide +kernel
theorem dX7_changes_4 : decode cX7_changes 4 = .ok (.ifCond .eq 4, 3) := by decide +kernel
theorem dX7_changes_7 : decode cX7_changes 7 = .ok (.return_, 1) := by decide +kernel
theorem dX7_changes_8 : decode cX7_changes 8 = .ok (.aload_n 0, 1) := by decide +kernel
theorem dX7_changes_9 : decode cX7_changes 9 = .ok (.getfield 41, 3) := by decide +kernel
theorem dX7_changes_12 : decode cX7_changes 12 = .ok (.iconst 4, 1) := by decide +kernel
theorem dX7_changes_13 : decode cX7_changes 13 = .ok (.if_icmp .ne 43, 3) := by decide +kernel
theorem dX7_changes_16 : decode cX7_changes 16 = .ok (.iconst 0, 1) := by decide +kernel
theorem dX7_changes_17 : decode cX7_changes 17 = .ok (.istore_n 1, 1) := by decide +kernel
theorem dX7_changes_18 : decode cX7_changes 18 = .ok (.iload_n 1, 1) := by decide +kernel
theorem dX7_changes_19 : decode cX7_changes 19 = .ok (.sipush 381, 3) := by decide +kernel
theorem dX7_changes_22 : decode cX7_changes 22 = .ok (.if_icmp .ge 24, 3) := by decide +kernel
theorem dX7_changes_25 : decode cX7_changes 25 = .ok (.aload_n 0, 1) := by decide +kernel
theorem dX7_changes_26 : decode cX7_changes 26 = .ok (.getfield 13, 3) := by decide +kernel
theorem dX7_changes_29 : decode cX7_changes 29 = .ok (.iload_n 1, 1) := by decide +kernel
theorem dX7_changes_30 : decode cX7_changes 30 = .ok (.aload_n 0, 1) := by decide +kernel
theorem dX7_changes_31 : decode cX7_changes 31 = .ok (.getfield 13, 3) := by decide +kernel
theorem dX7_changes_34 : decode cX7_changes 34 = .ok (.iload_n 1, 1) := by decide +kernel
theorem dX7_changes_35 : decode cX7_changes 35 = .ok (.bipush 127, 2) := by decide +kernel
theorem dX7_changes_37 : decode cX7_changes 37 = .ok (.iadd, 1) := by decide +kernel
theorem dX7_changes_38 : decode cX7_changes 38 = .ok (.iaload, 1) := by decide +kernel
theorem dX7_changes_39 : decode cX7_changes 39 = .ok (.iastore, 1) := by decide +kernel
theorem dX7_changes_40 : decode cX7_changes 40 = .ok (.iinc 1 1, 3) := by decide +kernel
theorem dX7_changes_43 : decode cX7_changes 43 = .ok (.goto (-25), 3) := by decide +kernel
theorem dX7_changes_46 : decode cX7_changes 46 = .ok (.aload_n 0, 1) := by decide +kernel
theorem dX7_changes_47 : decode cX7_changes 47 = .ok (.dup, 1) := by decide +kernel
theorem dX7_changes_48 : decode cX7_changes 48 = .ok (.getfield 41, 3) := by decide +kernel
theorem dX7_changes_51 : decode cX7_changes 51 = .ok (.iconst 1, 1) := by decide +kernel
theorem dX7_changes_52 : decode cX7_changes 52 = .ok (.isub, 1) := by decide +kernel
theorem dX7_changes_53 : decode cX7_changes 53 = .ok (.putfield 41, 3) := by decide +kernel
theorem dX7_changes_56 : decode cX7_changes 56 = .ok (.iconst 0, 1) := by decide +kernel
theorem dX7_changes_57 : decode cX7_changes 57 = .ok (.istore_n 1, 1) := by decide +kernel
theorem dX7_changes_58 : decode cX7_changes 58 = .ok (.iload_n 1, 1) := by decide +kernel
theorem dX7_changes_59 : decode cX7_changes 59 = .ok (.bipush 127, 2) := by decide +kernel
theorem dX7_changes_61 : decode cX7_changes 61 = .ok (.if_icmp .ge 29, 3) := by decide +kernel
theorem dX7_changes_64 : decode cX7_changes 64 = .ok (.aload_n 0, 1) := by decide +kernel
theorem dX7_changes_65 : decode cX7_changes 65 = .ok (.getfield 13, 3) := by decide +kernel
theorem dX7_changes_68 : decode cX7_changes 68 = .ok (.bipush 127, 2) := by decide +kernel
theorem dX7_changes_70 : decode cX7_changes 70 = .ok (.aload_n 0, 1) := by decide +kernel
theorem dX7_changes_71 : decode cX7_changes 71 = .ok (.getfield 41, 3) := by decide +kernel
theorem dX7_changes_74 : decode cX7_changes 74 = .ok (.imul, 1) := by decide +kernel
theorem dX7_changes_75 : decode cX7_changes 75 = .ok (.iload_n 1, 1) := by decide +kernel
theorem dX7_changes_76 : decode cX7_changes 76 = .ok (.iadd, 1) := by decide +kernel
theorem dX7_changes_77 : decode cX7_changes 77 = .ok (.aload_n 0, 1) := by decide +kernel
theorem dX7_changes_78 : decode cX7_changes 78 = .ok (.getfield 7, 3) := by decide +kernel
theorem dX7_changes_81 : decode cX7_changes 81 = .ok (.iload_n 1, 1) := by decide +kernel
theorem dX7_changes_82 : decode cX7_changes 82 = .ok (.iaload, 1) := by decide +kernel
theorem dX7_changes_83 : decode cX7_changes 83 = .ok (.iastore, 1) := by decide +kernel
theorem dX7_changes_84 : decode cX7_changes 84 = .ok (.iinc 1 1, 3) := by decide +kernel
theorem dX7_changes_87 : decode cX7_changes 87 = .ok (.goto (-29), 3) := by decide +kernel
theorem dX7_changes_90 : decode cX7_changes 90 = .ok (.aload_n 0, 1) := by decide +kernel
theorem dX7_changes_91 : decode cX7_changes 91 = .ok (.dup, 1) := by decide +kernel
theorem dX7_changes_92 : decode cX7_changes 92 = .ok (.getfield 41, 3) := by decide +kernel
theorem dX7_changes_95 : decode cX7_changes 95 = .ok (.iconst 1, 1) := by decide +kernel
theorem dX7_changes_96 : decode cX7_changes 96 = .ok (.iadd, 1) := by decide +kernel
theorem dX7_changes_97 : decode cX7_changes 97 = .ok (.putfield 41, 3) := by decide +kernel
theorem dX7_changes_100 : decode cX7_changes 100 = .ok (.return_, 1) := by decide +kernel
theorem dX7_isRegister_0 : decode cX7_isRegister 0 = .ok (.iload_n 0, 1) := by decide +kernel
theorem dX7_isRegister_1 : decode cX7_isRegister 1 = .ok (.iconst 0, 1) := by decide +kernel
theorem dX7_isRegister_2 : decode cX7_isRegister 2 = .ok (.bipush 6, 2) := by decide +kernel
theorem dX7_isRegister_4 : decode cX7_isRegister 4 = .ok (.invokestatic 45, 3) := by decide +kernel
theorem dX7_isRegister_7 : decode cX7_isRegister 7 = .ok (.ireturn, 1) := by decide +kernel
theorem dX7_isAlarm_0 : decode cX7_isAlarm 0 = .ok (.iload_n 0, 1) := by decide +kernel
theorem dX7_isAlarm_1 : decode cX7_isAlarm 1 = .ok (.iconst 0, 1) := by decide +kernel
theorem dX7_isAlarm_2 : decode cX7_isAlarm 2 = .ok (.iconst 2, 1) := by decide +kernel
theorem dX7_isAlarm_3 : decode cX7_isAlarm 3 = .ok (.invokestatic 45, 3) := by decide +kernel
theorem dX7_isAlarm_6 : decode cX7_isAlarm 6 = .ok (.ireturn, 1) := by decide +kernel
theorem dX7_number_0 : decode cX7_number 0 = .ok (.aload_n 0, 1) := by decide +kernel
theorem dX7_number_1 : decode cX7_number 1 = .ok (.getfield 7, 3) := by decide +kernel
theorem dX7_number_4 : decode cX7_number 4 = .ok (.iconst 0, 1) := by decide +kernel
theorem dX7_number_5 : decode cX7_number 5 = .ok (.iload_n 1, 1) := by decide +kernel
theorem dX7_number_6 : decode cX7_number 6 = .ok (.iadd, 1) := by decide +kernel
theorem dX7_number_7 : decode cX7_number 7 = .ok (.iaload, 1) := by decide +kernel
theorem dX7_number_8 : decode cX7_number 8 = .ok (.istore_n 2, 1) := by decide +kernel
theorem dX7_number_9 : decode cX7_number 9 = .ok (.bipush 10, 2) := by decide +kernel
theorem dX7_number_11 : decode cX7_number 11 = .ok (.iload_n 2, 1) := by decide +kernel
theorem dX7_number_12 : decode cX7_number 12 = .ok (.bipush 16, 2) := by decide +kernel
theorem dX7_number_14 : decode cX7_number 14 = .ok (.idiv, 1) := by decide +kernel
theorem dX7_number_15 : decode cX7_number 15 = .ok (.imul, 1) := by decide +kernel
theorem dX7_number_16 : decode cX7_number 16 = .ok (.iload_n 2, 1) := by decide +kernel
theorem dX7_number_17 : decode cX7_number 17 = .ok (.bipush 16, 2) := by decide +kernel
theorem dX7_number_19 : decode cX7_number 19 = .ok (.irem, 1) := by decide +kernel
theorem dX7_number_20 : decode cX7_number 20 = .ok (.iadd, 1) := by decide +kernel
theorem dX7_number_21 : decode cX7_number 21 = .ok (.ireturn, 1) := by decide +kernel
theorem dX7_isWithin_0 : decode cX7_isWithin 0 = .ok (.aload_n 0, 1) := by decide +kernel
theorem dX7_isWithin_1 : decode cX7_isWithin 1 = .ok (.getfield 7, 3) := by decide +kernel
theorem dX7_isWithin_4 : decode cX7_isWithin 4 = .ok (.iconst 0, 1) := by decide +kernel
theorem dX7_isWithin_5 : decode cX7_isWithin 5 = .ok (.iload_n 1, 1) := by decide +kernel
theorem dX7_isWithin_6 : decode cX7_isWithin 6 = .ok (.iadd, 1) := by decide +kernel
theorem dX7_isWithin_7 : decode cX7_isWithin 7 = .ok (.iaload, 1) := by decide +kernel
theorem dX7_isWithin_8 : decode cX7_isWithin 8 = .ok (.istore 4, 2) := by decide +kernel
theorem dX7_isWithin_10 : decode cX7_isWithin 10 = .ok (.iload 4, 2) := by decide +kernel
theorem dX7_isWithin_12 : decode cX7_isWithin 12 = .ok (.bipush 16, 2) := by decide +kernel
theorem dX7_isWithin_14 : decode cX7_isWithin 14 = .ok (.idiv, 1) := by decide +kernel
theorem dX7_isWithin_15 : decode cX7_isWithin 15 = .ok (.bipush 10, 2) := by decide +kernel
theorem dX7_isWithin_17 : decode cX7_isWithin 17 = .ok (.if_icmp .ge 30, 3) := by decide +kernel
theorem dX7_isWithin_20 : decode cX7_isWithin 20 = .ok (.iload 4, 2) := by decide +kernel
theorem dX7_isWithin_22 : decode cX7_isWithin 22 = .ok (.bipush 16, 2) := by decide +kernel
theorem dX7_isWithin_24 : decode cX7_isWithin 24 = .ok (.irem, 1) := by decide +kernel
theorem dX7_isWithin_25 : decode cX7_isWithin 25 = .ok (.bipush 10, 2) := by decide +kernel
theorem dX7_isWithin_27 : decode cX7_isWithin 27 = .ok (.if_icmp .ge 20, 3) := by decide +kernel
theorem dX7_isWithin_30 : decode cX7_isWithin 30 = .ok (.aload_n 0, 1) := by decide +kernel
theorem dX7_isWithin_31 : decode cX7_isWithin 31 = .ok (.iload_n 1, 1) := by decide +kernel
theorem dX7_isWithin_32 : decode cX7_isWithin 32 = .ok (.invokevirtual 49, 3) := by decide +kernel
theorem dX7_isWithin_35 : decode cX7_isWithin 35 = .ok (.iload_n 2, 1) := by decide +kernel
theorem dX7_isWithin_36 : decode cX7_isWithin 36 = .ok (.iload_n 3, 1) := by decide +kernel
theorem dX7_isWithin_37 : decode cX7_isWithin 37 = .ok (.invokestatic 45, 3) := by decide +kernel
theorem dX7_isWithin_40 : decode cX7_isWithin 40 = .ok (.ifCond .eq 7, 3) := by decide +kernel
theorem dX7_isWithin_43 : decode cX7_isWithin 43 = .ok (.iconst 1, 1) := by decide +kernel
theorem dX7_isWithin_44 : decode cX7_isWithin 44 = .ok (.goto 4, 3) := by decide +kernel
theorem dX7_isWithin_47 : decode cX7_isWithin 47 = .ok (.iconst 0, 1) := by decide +kernel
theorem dX7_isWithin_48 : decode cX7_isWithin 48 = .ok (.ireturn, 1) := by decide +kernel
theorem dX7_first_0 : decode cX7_first 0 = .ok (.iload_n 0, 1) := by decide +kernel
theorem dX7_first_1 : decode cX7_first 1 = .ok (.iconst 3, 1) := by decide +kernel
theorem dX7_first_2 : decode cX7_first 2 = .ok (.if_icmp .eq 13, 3) := by decide +kernel
theorem dX7_first_5 : decode cX7_first 5 = .ok (.iload_n 0, 1) := by decide +kernel
theorem dX7_first_6 : decode cX7_first 6 = .ok (.iconst 4, 1) := by decide +kernel
theorem dX7_first_7 : decode cX7_first 7 = .ok (.if_icmp .eq 8, 3) := by decide +kernel
theorem dX7_first_10 : decode cX7_first 10 = .ok (.iload_n 0, 1) := by decide +kernel
theorem dX7_first_11 : decode cX7_first 11 = .ok (.iconst 5, 1) := by decide +kernel
theorem dX7_first_12 : decode cX7_first 12 = .ok (.if_icmp .ne 7, 3) := by decide +kernel
theorem dX7_first_15 : decode cX7_first 15 = .ok (.iconst 1, 1) := by decide +kernel
theorem dX7_first_16 : decode cX7_first 16 = .ok (.goto 4, 3) := by decide +kernel
theorem dX7_first_19 : decode cX7_first 19 = .ok (.iconst 0, 1) := by decide +kernel
theorem dX7_first_20 : decode cX7_first 20 = .ok (.ireturn, 1) := by decide +kernel
theorem dX7_last_0 : decode cX7_last 0 = .ok (.iload_n 1, 1) := by decide +kernel
theorem dX7_last_1 : decode cX7_last 1 = .ok (.tableswitch 56 0 5 #[39, 39, 42, 45, 48, 53], 39) := by decide +kernel
theorem dX7_last_40 : decode cX7_last 40 = .ok (.bipush 59, 2) := by decide +kernel
theorem dX7_last_42 : decode cX7_last 42 = .ok (.ireturn, 1) := by decide +kernel
theorem dX7_last_43 : decode cX7_last 43 = .ok (.bipush 23, 2) := by decide +kernel
theorem dX7_last_45 : decode cX7_last 45 = .ok (.ireturn, 1) := by decide +kernel
theorem dX7_last_46 : decode cX7_last 46 = .ok (.bipush 7, 2) := by decide +kernel
theorem dX7_last_48 : decode cX7_last 48 = .ok (.ireturn, 1) := by decide +kernel
theorem dX7_last_49 : decode cX7_last 49 = .ok (.aload_n 0, 1) := by decide +kernel
theorem dX7_last_50 : decode cX7_last 50 = .ok (.invokevirtual 53, 3) := by decide +kernel
theorem dX7_last_53 : decode cX7_last 53 = .ok (.ireturn, 1) := by decide +kernel
theorem dX7_last_54 : decode cX7_last 54 = .ok (.bipush 12, 2) := by decide +kernel
theorem dX7_last_56 : decode cX7_last 56 = .ok (.ireturn, 1) := by decide +kernel
theorem dX7_last_57 : decode cX7_last 57 = .ok (.bipush 99, 2) := by decide +kernel
theorem dX7_last_59 : decode cX7_last 59 = .ok (.ireturn, 1) := by decide +kernel
theorem dX7_wrong_0 : decode cX7_wrong 0 = .ok (.aload_n 0, 1) := by decide +kernel
theorem dX7_wrong_1 : decode cX7_wrong 1 = .ok (.getfield 7, 3) := by decide +kernel
theorem dX7_wrong_4 : decode cX7_wrong 4 = .ok (.iconst 0, 1) := by decide +kernel
theorem dX7_wrong_5 : decode cX7_wrong 5 = .ok (.iload_n 1, 1) := by decide +kernel
theorem dX7_wrong_6 : decode cX7_wrong 6 = .ok (.iadd, 1) := by decide +kernel
theorem dX7_wrong_7 : decode cX7_wrong 7 = .ok (.iaload, 1) := by decide +kernel
theorem dX7_wrong_8 : decode cX7_wrong 8 = .ok (.istore_n 2, 1) := by decide +kernel
theorem dX7_wrong_9 : decode cX7_wrong 9 = .ok (.iload_n 2, 1) := by decide +kernel
theorem dX7_wrong_10 : decode cX7_wrong 10 = .ok (.bipush 16, 2) := by decide +kernel
theorem dX7_wrong_12 : decode cX7_wrong 12 = .ok (.idiv, 1) := by decide +kernel
theorem dX7_wrong_13 : decode cX7_wrong 13 = .ok (.bipush 9, 2) := by decide +kernel
theorem dX7_wrong_15 : decode cX7_wrong 15 = .ok (.if_icmp .gt 12, 3) := by decide +kernel
theorem dX7_wrong_18 : decode cX7_wrong 18 = .ok (.iload_n 2, 1) := by decide +kernel
theorem dX7_wrong_19 : decode cX7_wrong 19 = .ok (.bipush 16, 2) := by decide +kernel
theorem dX7_wrong_21 : decode cX7_wrong 21 = .ok (.irem, 1) := by decide +kernel
theorem dX7_wrong_22 : decode cX7_wrong 22 = .ok (.bipush 9, 2) := by decide +kernel
theorem dX7_wrong_24 : decode cX7_wrong 24 = .ok (.if_icmp .le 5, 3) := by decide +kernel
theorem dX7_wrong_27 : decode cX7_wrong 27 = .ok (.iconst 1, 1) := by decide +kernel
theorem dX7_wrong_28 : decode cX7_wrong 28 = .ok (.ireturn, 1) := by decide +kernel
theorem dX7_wrong_29 : decode cX7_wrong 29 = .ok (.aload_n 0, 1) := by decide +kernel
theorem dX7_wrong_30 : decode cX7_wrong 30 = .ok (.iload_n 1, 1) := by decide +kernel
theorem dX7_wrong_31 : decode cX7_wrong 31 = .ok (.invokevirtual 49, 3) := by decide +kernel
theorem dX7_wrong_34 : decode cX7_wrong 34 = .ok (.iload_n 1, 1) := by decide +kernel
theorem dX7_wrong_35 : decode cX7_wrong 35 = .ok (.invokestatic 57, 3) := by decide +kernel
theorem dX7_wrong_38 : decode cX7_wrong 38 = .ok (.if_icmp .ge 7, 3) := by decide +kernel
theorem dX7_wrong_41 : decode cX7_wrong 41 = .ok (.iconst 2, 1) := by decide +kernel
theorem dX7_wrong_42 : decode cX7_wrong 42 = .ok (.goto 21, 3) := by decide +kernel
theorem dX7_wrong_45 : decode cX7_wrong 45 = .ok (.aload_n 0, 1) := by decide +kernel
theorem dX7_wrong_46 : decode cX7_wrong 46 = .ok (.iload_n 1, 1) := by decide +kernel
theorem dX7_wrong_47 : decode cX7_wrong 47 = .ok (.invokevirtual 49, 3) := by decide +kernel
theorem dX7_wrong_50 : decode cX7_wrong 50 = .ok (.aload_n 0, 1) := by decide +kernel
theorem dX7_wrong_51 : decode cX7_wrong 51 = .ok (.iload_n 1, 1) := by decide +kernel
theorem dX7_wrong_52 : decode cX7_wrong 52 = .ok (.invokevirtual 60, 3) := by decide +kernel
theorem dX7_wrong_55 : decode cX7_wrong 55 = .ok (.if_icmp .le 7, 3) := by decide +kernel
theorem dX7_wrong_58 : decode cX7_wrong 58 = .ok (.iconst 3, 1) := by decide +kernel
theorem dX7_wrong_59 : decode cX7_wrong 59 = .ok (.goto 4, 3) := by decide +kernel
theorem dX7_wrong_62 : decode cX7_wrong 62 = .ok (.iconst 0, 1) := by decide +kernel
theorem dX7_wrong_63 : decode cX7_wrong 63 = .ok (.ireturn, 1) := by decide +kernel
theorem dX7_lengthOf_0 : decode cX7_lengthOf 0 = .ok (.iload_n 0, 1) := by decide +kernel
theorem dX7_lengthOf_1 : decode cX7_lengthOf 1 = .ok (.iconst 2, 1) := by decide +kernel
theorem dX7_lengthOf_2 : decode cX7_lengthOf 2 = .ok (.if_icmp .ne 15, 3) := by decide +kernel
theorem dX7_lengthOf_5 : decode cX7_lengthOf 5 = .ok (.iload_n 1, 1) := by decide +kernel
theorem dX7_lengthOf_6 : decode cX7_lengthOf 6 = .ok (.ifCond .eq 8, 3) := by decide +kernel
theorem dX7_lengthOf_9 : decode cX7_lengthOf 9 = .ok (.bipush 29, 2) := by decide +kernel
theorem dX7_lengthOf_11 : decode cX7_lengthOf 11 = .ok (.goto 5, 3) := by decide +kernel
theorem dX7_lengthOf_14 : decode cX7_lengthOf 14 = .ok (.bipush 28, 2) := by decide +kernel
theorem dX7_lengthOf_16 : decode cX7_lengthOf 16 = .ok (.ireturn, 1) := by decide +kernel
theorem dX7_lengthOf_17 : decode cX7_lengthOf 17 = .ok (.iload_n 0, 1) := by decide +kernel
theorem dX7_lengthOf_18 : decode cX7_lengthOf 18 = .ok (.iconst 4, 1) := by decide +kernel
theorem dX7_lengthOf_19 : decode cX7_lengthOf 19 = .ok (.if_icmp .eq 21, 3) := by decide +kernel
theorem dX7_lengthOf_22 : decode cX7_lengthOf 22 = .ok (.iload_n 0, 1) := by decide +kernel
theorem dX7_lengthOf_23 : decode cX7_lengthOf 23 = .ok (.bipush 6, 2) := by decide +kernel
theorem dX7_lengthOf_25 : decode cX7_lengthOf 25 = .ok (.if_icmp .eq 15, 3) := by decide +kernel
theorem dX7_lengthOf_28 : decode cX7_lengthOf 28 = .ok (.iload_n 0, 1) := by decide +kernel
theorem dX7_lengthOf_29 : decode cX7_lengthOf 29 = .ok (.bipush 9, 2) := by decide +kernel
theorem dX7_lengthOf_31 : decode cX7_lengthOf 31 = .ok (.if_icmp .eq 9, 3) := by decide +kernel
theorem dX7_lengthOf_34 : decode cX7_lengthOf 34 = .ok (.iload_n 0, 1) := by decide +kernel
theorem dX7_lengthOf_35 : decode cX7_lengthOf 35 = .ok (.bipush 11, 2) := by decide +kernel
theorem dX7_lengthOf_37 : decode cX7_lengthOf 37 = .ok (.if_icmp .ne 8, 3) := by decide +kernel
theorem dX7_lengthOf_40 : decode cX7_lengthOf 40 = .ok (.bipush 30, 2) := by decide +kernel
theorem dX7_lengthOf_42 : decode cX7_lengthOf 42 = .ok (.goto 5, 3) := by decide +kernel
theorem dX7_lengthOf_45 : decode cX7_lengthOf 45 = .ok (.bipush 31, 2) := by decide +kernel
theorem dX7_lengthOf_47 : decode cX7_lengthOf 47 = .ok (.ireturn, 1) := by decide +kernel
theorem dX7_isLeap_0 : decode cX7_isLeap 0 = .ok (.aload_n 0, 1) := by decide +kernel
theorem dX7_isLeap_1 : decode cX7_isLeap 1 = .ok (.bipush 6, 2) := by decide +kernel
theorem dX7_isLeap_3 : decode cX7_isLeap 3 = .ok (.iconst 0, 1) := by decide +kernel
theorem dX7_isLeap_4 : decode cX7_isLeap 4 = .ok (.bipush 99, 2) := by decide +kernel
theorem dX7_isLeap_6 : decode cX7_isLeap 6 = .ok (.invokevirtual 63, 3) := by decide +kernel
theorem dX7_isLeap_9 : decode cX7_isLeap 9 = .ok (.ifCond .eq 18, 3) := by decide +kernel
theorem dX7_isLeap_12 : decode cX7_isLeap 12 = .ok (.aload_n 0, 1) := by decide +kernel
theorem dX7_isLeap_13 : decode cX7_isLeap 13 = .ok (.bipush 6, 2) := by decide +kernel
theorem dX7_isLeap_15 : decode cX7_isLeap 15 = .ok (.invokevirtual 49, 3) := by decide +kernel
theorem dX7_isLeap_18 : decode cX7_isLeap 18 = .ok (.iconst 4, 1) := by decide +kernel
theorem dX7_isLeap_19 : decode cX7_isLeap 19 = .ok (.irem, 1) := by decide +kernel
theorem dX7_isLeap_20 : decode cX7_isLeap 20 = .ok (.ifCond .ne 7, 3) := by decide +kernel
theorem dX7_isLeap_23 : decode cX7_isLeap 23 = .ok (.iconst 1, 1) := by decide +kernel
theorem dX7_isLeap_24 : decode cX7_isLeap 24 = .ok (.goto 4, 3) := by decide +kernel
theorem dX7_isLeap_27 : decode cX7_isLeap 27 = .ok (.iconst 0, 1) := by decide +kernel
theorem dX7_isLeap_28 : decode cX7_isLeap 28 = .ok (.ireturn, 1) := by decide +kernel
theorem dX7_monthLength_0 : decode cX7_monthLength 0 = .ok (.aload_n 0, 1) := by decide +kernel
theorem dX7_monthLength_1 : decode cX7_monthLength 1 = .ok (.iconst 5, 1) := by decide +kernel
theorem dX7_monthLength_2 : decode cX7_monthLength 2 = .ok (.iconst 1, 1) := by decide +kernel
theorem dX7_monthLength_3 : decode cX7_monthLength 3 = .ok (.bipush 12, 2) := by decide +kernel
theorem dX7_monthLength_5 : decode cX7_monthLength 5 = .ok (.invokevirtual 63, 3) := by decide +kernel
theorem dX7_monthLength_8 : decode cX7_monthLength 8 = .ok (.ifCond .eq 18, 3) := by decide +kernel
theorem dX7_monthLength_11 : decode cX7_monthLength 11 = .ok (.aload_n 0, 1) := by decide +kernel
theorem dX7_monthLength_12 : decode cX7_monthLength 12 = .ok (.iconst 5, 1) := by decide +kernel
theorem dX7_monthLength_13 : decode cX7_monthLength 13 = .ok (.invokevirtual 49, 3) := by decide +kernel
theorem dX7_monthLength_16 : decode cX7_monthLength 16 = .ok (.aload_n 0, 1) := by decide +kernel
theorem dX7_monthLength_17 : decode cX7_monthLength 17 = .ok (.invokevirtual 66, 3) := by decide +kernel
theorem dX7_monthLength_20 : decode cX7_monthLength 20 = .ok (.invokestatic 70, 3) := by decide +kernel
theorem dX7_monthLength_23 : decode cX7_monthLength 23 = .ok (.goto 5, 3) := by decide +kernel
theorem dX7_monthLength_26 : decode cX7_monthLength 26 = .ok (.bipush 31, 2) := by decide +kernel
theorem dX7_monthLength_28 : decode cX7_monthLength 28 = .ok (.ireturn, 1) := by decide +kernel
theorem dX7_puts_0 : decode cX7_puts 0 = .ok (.aload_n 0, 1) := by decide +kernel
theorem dX7_puts_1 : decode cX7_puts 1 = .ok (.getfield 7, 3) := by decide +kernel
theorem dX7_puts_4 : decode cX7_puts 4 = .ok (.bipush 7, 2) := by decide +kernel
theorem dX7_puts_6 : decode cX7_puts 6 = .ok (.iload_n 1, 1) := by decide +kernel
theorem dX7_puts_7 : decode cX7_puts 7 = .ok (.iadd, 1) := by decide +kernel
theorem dX7_puts_8 : decode cX7_puts 8 = .ok (.iaload, 1) := by decide +kernel
theorem dX7_puts_9 : decode cX7_puts 9 = .ok (.istore_n 3, 1) := by decide +kernel
theorem dX7_puts_10 : decode cX7_puts 10 = .ok (.aload_n 0, 1) := by decide +kernel
theorem dX7_puts_11 : decode cX7_puts 11 = .ok (.getfield 7, 3) := by decide +kernel
theorem dX7_puts_14 : decode cX7_puts 14 = .ok (.iconst 0, 1) := by decide +kernel
theorem dX7_puts_15 : decode cX7_puts 15 = .ok (.iload_n 1, 1) := by decide +kernel
theorem dX7_puts_16 : decode cX7_puts 16 = .ok (.iadd, 1) := by decide +kernel
theorem dX7_puts_17 : decode cX7_puts 17 = .ok (.iload_n 2, 1) := by decide +kernel
theorem dX7_puts_18 : decode cX7_puts 18 = .ok (.sipush 255, 3) := by decide +kernel
theorem dX7_puts_21 : decode cX7_puts 21 = .ok (.iload_n 3, 1) := by decide +kernel
theorem dX7_puts_22 : decode cX7_puts 22 = .ok (.isub, 1) := by decide +kernel
theorem dX7_puts_23 : decode cX7_puts 23 = .ok (.iand, 1) := by decide +kernel
theorem dX7_puts_24 : decode cX7_puts 24 = .ok (.aload_n 0, 1) := by decide +kernel
theorem dX7_puts_25 : decode cX7_puts 25 = .ok (.getfield 7, 3) := by decide +kernel
theorem dX7_puts_28 : decode cX7_puts 28 = .ok (.bipush 14, 2) := by decide +kernel
theorem dX7_puts_30 : decode cX7_puts 30 = .ok (.iload_n 1, 1) := by decide +kernel
theorem dX7_puts_31 : decode cX7_puts 31 = .ok (.iadd, 1) := by decide +kernel
theorem dX7_puts_32 : decode cX7_puts 32 = .ok (.iaload, 1) := by decide +kernel
theorem dX7_puts_33 : decode cX7_puts 33 = .ok (.iload_n 3, 1) := by decide +kernel
theorem dX7_puts_34 : decode cX7_puts 34 = .ok (.iand, 1) := by decide +kernel
theorem dX7_puts_35 : decode cX7_puts 35 = .ok (.ior, 1) := by decide +kernel
theorem dX7_puts_36 : decode cX7_puts 36 = .ok (.iastore, 1) := by decide +kernel
theorem dX7_puts_37 : decode cX7_puts 37 = .ok (.return_, 1) := by decide +kernel
theorem dX7_stepped_0 : decode cX7_stepped 0 = .ok (.aload_n 0, 1) := by decide +kernel
theorem dX7_stepped_1 : decode cX7_stepped 1 = .ok (.getfield 7, 3) := by decide +kernel
theorem dX7_stepped_4 : decode cX7_stepped 4 = .ok (.iconst 0, 1) := by decide +kernel
theorem dX7_stepped_5 : decode cX7_stepped 5 = .ok (.iload_n 1, 1) := by decide +kernel
theorem dX7_stepped_6 : decode cX7_stepped 6 = .ok (.iadd, 1) := by decide +kernel
theorem dX7_stepped_7 : decode cX7_stepped 7 = .ok (.iaload, 1) := by decide +kernel
theorem dX7_stepped_8 : decode cX7_stepped 8 = .ok (.istore_n 2, 1) := by decide +kernel
theorem dX7_stepped_9 : decode cX7_stepped 9 = .ok (.aload_n 0, 1) := by decide +kernel
theorem dX7_stepped_10 : decode cX7_stepped 10 = .ok (.iload_n 1, 1) := by decide +kernel
theorem dX7_stepped_11 : decode cX7_stepped 11 = .ok (.invokevirtual 74, 3) := by decide +kernel
theorem dX7_stepped_14 : decode cX7_stepped 14 = .ok (.ifCond .eq 8, 3) := by decide +kernel
theorem dX7_stepped_17 : decode cX7_stepped 17 = .ok (.iload_n 1, 1) := by decide +kernel
theorem dX7_stepped_18 : decode cX7_stepped 18 = .ok (.invokestatic 57, 3) := by decide +kernel
theorem dX7_stepped_21 : decode cX7_stepped 21 = .ok (.ireturn, 1) := by decide +kernel
theorem dX7_stepped_22 : decode cX7_stepped 22 = .ok (.iload_n 2, 1) := by decide +kernel
theorem dX7_stepped_23 : decode cX7_stepped 23 = .ok (.bipush 16, 2) := by decide +kernel
theorem dX7_stepped_25 : decode cX7_stepped 25 = .ok (.irem, 1) := by decide +kernel
theorem dX7_stepped_26 : decode cX7_stepped 26 = .ok (.bipush 9, 2) := by decide +kernel
theorem dX7_stepped_28 : decode cX7_stepped 28 = .ok (.if_icmp .ge 7, 3) := by decide +kernel
theorem dX7_stepped_31 : decode cX7_stepped 31 = .ok (.iload_n 2, 1) := by decide +kernel
theorem dX7_stepped_32 : decode cX7_stepped 32 = .ok (.iconst 1, 1) := by decide +kernel
theorem dX7_stepped_33 : decode cX7_stepped 33 = .ok (.iadd, 1) := by decide +kernel
theorem dX7_stepped_34 : decode cX7_stepped 34 = .ok (.ireturn, 1) := by decide +kernel
theorem dX7_stepped_35 : decode cX7_stepped 35 = .ok (.iload_n 2, 1) := by decide +kernel
theorem dX7_stepped_36 : decode cX7_stepped 36 = .ok (.bipush 16, 2) := by decide +kernel
theorem dX7_stepped_38 : decode cX7_stepped 38 = .ok (.idiv, 1) := by decide +kernel
theorem dX7_stepped_39 : decode cX7_stepped 39 = .ok (.bipush 15, 2) := by decide +kernel
theorem dX7_stepped_41 : decode cX7_stepped 41 = .ok (.if_icmp .ne 7, 3) := by decide +kernel
theorem dX7_stepped_44 : decode cX7_stepped 44 = .ok (.iconst 0, 1) := by decide +kernel
theorem dX7_stepped_45 : decode cX7_stepped 45 = .ok (.goto 12, 3) := by decide +kernel
theorem dX7_stepped_48 : decode cX7_stepped 48 = .ok (.bipush 16, 2) := by decide +kernel
theorem dX7_stepped_50 : decode cX7_stepped 50 = .ok (.iload_n 2, 1) := by decide +kernel
theorem dX7_stepped_51 : decode cX7_stepped 51 = .ok (.bipush 16, 2) := by decide +kernel
theorem dX7_stepped_53 : decode cX7_stepped 53 = .ok (.idiv, 1) := by decide +kernel
theorem dX7_stepped_54 : decode cX7_stepped 54 = .ok (.iconst 1, 1) := by decide +kernel
theorem dX7_stepped_55 : decode cX7_stepped 55 = .ok (.iadd, 1) := by decide +kernel
theorem dX7_stepped_56 : decode cX7_stepped 56 = .ok (.imul, 1) := by decide +kernel
theorem dX7_stepped_57 : decode cX7_stepped 57 = .ok (.ireturn, 1) := by decide +kernel
theorem dX7_rolls_0 : decode cX7_rolls 0 = .ok (.aload_n 0, 1) := by decide +kernel
theorem dX7_rolls_1 : decode cX7_rolls 1 = .ok (.iload_n 1, 1) := by decide +kernel
theorem dX7_rolls_2 : decode cX7_rolls 2 = .ok (.invokevirtual 78, 3) := by decide +kernel
theorem dX7_rolls_5 : decode cX7_rolls 5 = .ok (.ifCond .ne 20, 3) := by decide +kernel
theorem dX7_rolls_8 : decode cX7_rolls 8 = .ok (.aload_n 0, 1) := by decide +kernel
theorem dX7_rolls_9 : decode cX7_rolls 9 = .ok (.iload_n 1, 1) := by decide +kernel
theorem dX7_rolls_10 : decode cX7_rolls 10 = .ok (.invokevirtual 49, 3) := by decide +kernel
theorem dX7_rolls_13 : decode cX7_rolls 13 = .ok (.aload_n 0, 1) := by decide +kernel
theorem dX7_rolls_14 : decode cX7_rolls 14 = .ok (.iload_n 1, 1) := by decide +kernel
theorem dX7_rolls_15 : decode cX7_rolls 15 = .ok (.invokevirtual 60, 3) := by decide +kernel
theorem dX7_rolls_18 : decode cX7_rolls 18 = .ok (.if_icmp .ne 7, 3) := by decide +kernel
theorem dX7_rolls_21 : decode cX7_rolls 21 = .ok (.iconst 1, 1) := by decide +kernel
theorem dX7_rolls_22 : decode cX7_rolls 22 = .ok (.goto 4, 3) := by decide +kernel
theorem dX7_rolls_25 : decode cX7_rolls 25 = .ok (.iconst 0, 1) := by decide +kernel
theorem dX7_rolls_26 : decode cX7_rolls 26 = .ok (.ireturn, 1) := by decide +kernel
theorem dX7_steps_0 : decode cX7_steps 0 = .ok (.aload_n 0, 1) := by decide +kernel
theorem dX7_steps_1 : decode cX7_steps 1 = .ok (.iload_n 1, 1) := by decide +kernel
theorem dX7_steps_2 : decode cX7_steps 2 = .ok (.invokevirtual 74, 3) := by decide +kernel
theorem dX7_steps_5 : decode cX7_steps 5 = .ok (.istore_n 2, 1) := by decide +kernel
theorem dX7_steps_6 : decode cX7_steps 6 = .ok (.aload_n 0, 1) := by decide +kernel
theorem dX7_steps_7 : decode cX7_steps 7 = .ok (.iload_n 1, 1) := by decide +kernel
theorem dX7_steps_8 : decode cX7_steps 8 = .ok (.aload_n 0, 1) := by decide +kernel
theorem dX7_steps_9 : decode cX7_steps 9 = .ok (.iload_n 1, 1) := by decide +kernel
theorem dX7_steps_10 : decode cX7_steps 10 = .ok (.invokevirtual 81, 3) := by decide +kernel
theorem dX7_steps_13 : decode cX7_steps 13 = .ok (.invokevirtual 84, 3) := by decide +kernel
theorem dX7_steps_16 : decode cX7_steps 16 = .ok (.aload_n 0, 1) := by decide +kernel
theorem dX7_steps_17 : decode cX7_steps 17 = .ok (.getfield 7, 3) := by decide +kernel
theorem dX7_steps_20 : decode cX7_steps 20 = .ok (.bipush 21, 2) := by decide +kernel
theorem dX7_steps_22 : decode cX7_steps 22 = .ok (.iload_n 1, 1) := by decide +kernel
theorem dX7_steps_23 : decode cX7_steps 23 = .ok (.iadd, 1) := by decide +kernel
theorem dX7_steps_24 : decode cX7_steps 24 = .ok (.dup2, 1) := by decide +kernel
theorem dX7_steps_25 : decode cX7_steps 25 = .ok (.iaload, 1) := by decide +kernel
theorem dX7_steps_26 : decode cX7_steps 26 = .ok (.iload_n 2, 1) := by decide +kernel
theorem dX7_steps_27 : decode cX7_steps 27 = .ok (.ifCond .eq 7, 3) := by decide +kernel
theorem dX7_steps_30 : decode cX7_steps 30 = .ok (.iconst 1, 1) := by decide +kernel
theorem dX7_steps_31 : decode cX7_steps 31 = .ok (.goto 4, 3) := by decide +kernel
theorem dX7_steps_34 : decode cX7_steps 34 = .ok (.iconst 0, 1) := by decide +kernel
theorem dX7_steps_35 : decode cX7_steps 35 = .ok (.iadd, 1) := by decide +kernel
theorem dX7_steps_36 : decode cX7_steps 36 = .ok (.iastore, 1) := by decide +kernel
theorem dX7_steps_37 : decode cX7_steps 37 = .ok (.iload_n 2, 1) := by decide +kernel
theorem dX7_steps_38 : decode cX7_steps 38 = .ok (.ireturn, 1) := by decide +kernel
theorem dX7_alarmAt_0 : decode cX7_alarmAt 0 = .ok (.bipush 40, 2) := by decide +kernel
theorem dX7_alarmAt_2 : decode cX7_alarmAt 2 = .ok (.bipush 9, 2) := by decide +kernel
theorem dX7_alarmAt_4 : decode cX7_alarmAt 4 = .ok (.iload_n 0, 1) := by decide +kernel
theorem dX7_alarmAt_5 : decode cX7_alarmAt 5 = .ok (.imul, 1) := by decide +kernel
theorem dX7_alarmAt_6 : decode cX7_alarmAt 6 = .ok (.iadd, 1) := by decide +kernel
theorem dX7_alarmAt_7 : decode cX7_alarmAt 7 = .ok (.ireturn, 1) := by decide +kernel
theorem dX7_matches_0 : decode cX7_matches 0 = .ok (.iload_n 1, 1) := by decide +kernel
theorem dX7_matches_1 : decode cX7_matches 1 = .ok (.invokestatic 88, 3) := by decide +kernel
theorem dX7_matches_4 : decode cX7_matches 4 = .ok (.istore_n 2, 1) := by decide +kernel
theorem dX7_matches_5 : decode cX7_matches 5 = .ok (.iconst 1, 1) := by decide +kernel
theorem dX7_matches_6 : decode cX7_matches 6 = .ok (.istore_n 3, 1) := by decide +kernel
theorem dX7_matches_7 : decode cX7_matches 7 = .ok (.iconst 0, 1) := by decide +kernel
theorem dX7_matches_8 : decode cX7_matches 8 = .ok (.istore 4, 2) := by decide +kernel
theorem dX7_matches_10 : decode cX7_matches 10 = .ok (.iload 4, 2) := by decide +kernel
theorem dX7_matches_12 : decode cX7_matches 12 = .ok (.iconst 5, 1) := by decide +kernel
theorem dX7_matches_13 : decode cX7_matches 13 = .ok (.if_icmp .ge 57, 3) := by decide +kernel
theorem dX7_matches_16 : decode cX7_matches 16 = .ok (.iload_n 3, 1) := by decide +kernel
theorem dX7_matches_17 : decode cX7_matches 17 = .ok (.ifCond .eq 45, 3) := by decide +kernel
theorem dX7_matches_20 : decode cX7_matches 20 = .ok (.aload_n 0, 1) := by decide +kernel
theorem dX7_matches_21 : decode cX7_matches 21 = .ok (.getfield 7, 3) := by decide +kernel
theorem dX7_matches_24 : decode cX7_matches 24 = .ok (.iload_n 2, 1) := by decide +kernel
theorem dX7_matches_25 : decode cX7_matches 25 = .ok (.iconst 5, 1) := by decide +kernel
theorem dX7_matches_26 : decode cX7_matches 26 = .ok (.iadd, 1) := by decide +kernel
theorem dX7_matches_27 : decode cX7_matches 27 = .ok (.iaload, 1) := by decide +kernel
theorem dX7_matches_28 : decode cX7_matches 28 = .ok (.iload 4, 2) := by decide +kernel
theorem dX7_matches_30 : decode cX7_matches 30 = .ok (.ishr, 1) := by decide +kernel
theorem dX7_matches_31 : decode cX7_matches 31 = .ok (.iconst 1, 1) := by decide +kernel
theorem dX7_matches_32 : decode cX7_matches 32 = .ok (.iand, 1) := by decide +kernel
theorem dX7_matches_33 : decode cX7_matches 33 = .ok (.iconst 1, 1) := by decide +kernel
theorem dX7_matches_34 : decode cX7_matches 34 = .ok (.if_icmp .eq 24, 3) := by decide +kernel
theorem dX7_matches_37 : decode cX7_matches 37 = .ok (.aload_n 0, 1) := by decide +kernel
theorem dX7_matches_38 : decode cX7_matches 38 = .ok (.getfield 7, 3) := by decide +kernel
theorem dX7_matches_41 : decode cX7_matches 41 = .ok (.iload_n 2, 1) := by decide +kernel
theorem dX7_matches_42 : decode cX7_matches 42 = .ok (.iload 4, 2) := by decide +kernel
theorem dX7_matches_44 : decode cX7_matches 44 = .ok (.iadd, 1) := by decide +kernel
theorem dX7_matches_45 : decode cX7_matches 45 = .ok (.iaload, 1) := by decide +kernel
theorem dX7_matches_46 : decode cX7_matches 46 = .ok (.aload_n 0, 1) := by decide +kernel
theorem dX7_matches_47 : decode cX7_matches 47 = .ok (.getfield 7, 3) := by decide +kernel
theorem dX7_matches_50 : decode cX7_matches 50 = .ok (.iconst 0, 1) := by decide +kernel
theorem dX7_matches_51 : decode cX7_matches 51 = .ok (.iload 4, 2) := by decide +kernel
theorem dX7_matches_53 : decode cX7_matches 53 = .ok (.iadd, 1) := by decide +kernel
theorem dX7_matches_54 : decode cX7_matches 54 = .ok (.iaload, 1) := by decide +kernel
theorem dX7_matches_55 : decode cX7_matches 55 = .ok (.if_icmp .ne 7, 3) := by decide +kernel
theorem dX7_matches_58 : decode cX7_matches 58 = .ok (.iconst 1, 1) := by decide +kernel
theorem dX7_matches_59 : decode cX7_matches 59 = .ok (.goto 4, 3) := by decide +kernel
theorem dX7_matches_62 : decode cX7_matches 62 = .ok (.iconst 0, 1) := by decide +kernel
theorem dX7_matches_63 : decode cX7_matches 63 = .ok (.istore_n 3, 1) := by decide +kernel
theorem dX7_matches_64 : decode cX7_matches 64 = .ok (.iinc 4 1, 3) := by decide +kernel
theorem dX7_matches_67 : decode cX7_matches 67 = .ok (.goto (-57), 3) := by decide +kernel
theorem dX7_matches_70 : decode cX7_matches 70 = .ok (.iload_n 3, 1) := by decide +kernel
theorem dX7_matches_71 : decode cX7_matches 71 = .ok (.ireturn, 1) := by decide +kernel
theorem dX7_tick_0 : decode cX7_tick 0 = .ok (.aload_n 0, 1) := by decide +kernel
theorem dX7_tick_1 : decode cX7_tick 1 = .ok (.getfield 7, 3) := by decide +kernel
theorem dX7_tick_4 : decode cX7_tick 4 = .ok (.bipush 29, 2) := by decide +kernel
theorem dX7_tick_6 : decode cX7_tick 6 = .ok (.dup2, 1) := by decide +kernel
theorem dX7_tick_7 : decode cX7_tick 7 = .ok (.iaload, 1) := by decide +kernel
theorem dX7_tick_8 : decode cX7_tick 8 = .ok (.iconst 1, 1) := by decide +kernel
theorem dX7_tick_9 : decode cX7_tick 9 = .ok (.iadd, 1) := by decide +kernel
theorem dX7_tick_10 : decode cX7_tick 10 = .ok (.iastore, 1) := by decide +kernel
theorem dX7_tick_11 : decode cX7_tick 11 = .ok (.iconst 1, 1) := by decide +kernel
theorem dX7_tick_12 : decode cX7_tick 12 = .ok (.istore_n 1, 1) := by decide +kernel
theorem dX7_tick_13 : decode cX7_tick 13 = .ok (.iconst 0, 1) := by decide +kernel
theorem dX7_tick_14 : decode cX7_tick 14 = .ok (.istore_n 2, 1) := by decide +kernel
theorem dX7_tick_15 : decode cX7_tick 15 = .ok (.iload_n 2, 1) := by decide +kernel
theorem dX7_tick_16 : decode cX7_tick 16 = .ok (.iconst 2, 1) := by decide +kernel
theorem dX7_tick_17 : decode cX7_tick 17 = .ok (.if_icmp .gt 19, 3) := by decide +kernel
theorem dX7_tick_20 : decode cX7_tick 20 = .ok (.iload_n 1, 1) := by decide +kernel
theorem dX7_tick_21 : decode cX7_tick 21 = .ok (.ifCond .eq 15, 3) := by decide +kernel
theorem dX7_tick_24 : decode cX7_tick 24 = .ok (.aload_n 0, 1) := by decide +kernel
theorem dX7_tick_25 : decode cX7_tick 25 = .ok (.iload_n 2, 1) := by decide +kernel
theorem dX7_tick_26 : decode cX7_tick 26 = .ok (.invokevirtual 91, 3) := by decide +kernel
theorem dX7_tick_29 : decode cX7_tick 29 = .ok (.istore_n 1, 1) := by decide +kernel
theorem dX7_tick_30 : decode cX7_tick 30 = .ok (.iinc 2 1, 3) := by decide +kernel
theorem dX7_tick_33 : decode cX7_tick 33 = .ok (.goto (-18), 3) := by decide +kernel
theorem dX7_tick_36 : decode cX7_tick 36 = .ok (.iload_n 1, 1) := by decide +kernel
theorem dX7_tick_37 : decode cX7_tick 37 = .ok (.ifCond .eq 39, 3) := by decide +kernel
theorem dX7_tick_40 : decode cX7_tick 40 = .ok (.aload_n 0, 1) := by decide +kernel
theorem dX7_tick_41 : decode cX7_tick 41 = .ok (.iconst 3, 1) := by decide +kernel
theorem dX7_tick_42 : decode cX7_tick 42 = .ok (.invokevirtual 91, 3) := by decide +kernel
theorem dX7_tick_45 : decode cX7_tick 45 = .ok (.istore_n 2, 1) := by decide +kernel
theorem dX7_tick_46 : decode cX7_tick 46 = .ok (.aload_n 0, 1) := by decide +kernel
theorem dX7_tick_47 : decode cX7_tick 47 = .ok (.iconst 4, 1) := by decide +kernel
theorem dX7_tick_48 : decode cX7_tick 48 = .ok (.invokevirtual 91, 3) := by decide +kernel
theorem dX7_tick_51 : decode cX7_tick 51 = .ok (.istore_n 1, 1) := by decide +kernel
theorem dX7_tick_52 : decode cX7_tick 52 = .ok (.iconst 5, 1) := by decide +kernel
theorem dX7_tick_53 : decode cX7_tick 53 = .ok (.istore_n 3, 1) := by decide +kernel
theorem dX7_tick_54 : decode cX7_tick 54 = .ok (.iload_n 3, 1) := by decide +kernel
theorem dX7_tick_55 : decode cX7_tick 55 = .ok (.bipush 6, 2) := by decide +kernel
theorem dX7_tick_57 : decode cX7_tick 57 = .ok (.if_icmp .gt 19, 3) := by decide +kernel
theorem dX7_tick_60 : decode cX7_tick 60 = .ok (.iload_n 1, 1) := by decide +kernel
theorem dX7_tick_61 : decode cX7_tick 61 = .ok (.ifCond .eq 15, 3) := by decide +kernel
theorem dX7_tick_64 : decode cX7_tick 64 = .ok (.aload_n 0, 1) := by decide +kernel
theorem dX7_tick_65 : decode cX7_tick 65 = .ok (.iload_n 3, 1) := by decide +kernel
theorem dX7_tick_66 : decode cX7_tick 66 = .ok (.invokevirtual 91, 3) := by decide +kernel
theorem dX7_tick_69 : decode cX7_tick 69 = .ok (.istore_n 1, 1) := by decide +kernel
theorem dX7_tick_70 : decode cX7_tick 70 = .ok (.iinc 3 1, 3) := by decide +kernel
theorem dX7_tick_73 : decode cX7_tick 73 = .ok (.goto (-19), 3) := by decide +kernel
theorem dX7_tick_76 : decode cX7_tick 76 = .ok (.iconst 0, 1) := by decide +kernel
theorem dX7_tick_77 : decode cX7_tick 77 = .ok (.istore_n 2, 1) := by decide +kernel
theorem dX7_tick_78 : decode cX7_tick 78 = .ok (.iload_n 2, 1) := by decide +kernel
theorem dX7_tick_79 : decode cX7_tick 79 = .ok (.iconst 3, 1) := by decide +kernel
theorem dX7_tick_80 : decode cX7_tick 80 = .ok (.if_icmp .ge 69, 3) := by decide +kernel
theorem dX7_tick_83 : decode cX7_tick 83 = .ok (.iload_n 2, 1) := by decide +kernel
theorem dX7_tick_84 : decode cX7_tick 84 = .ok (.invokestatic 88, 3) := by decide +kernel
theorem dX7_tick_87 : decode cX7_tick 87 = .ok (.istore_n 3, 1) := by decide +kernel
theorem dX7_tick_88 : decode cX7_tick 88 = .ok (.aload_n 0, 1) := by decide +kernel
theorem dX7_tick_89 : decode cX7_tick 89 = .ok (.getfield 7, 3) := by decide +kernel
theorem dX7_tick_92 : decode cX7_tick 92 = .ok (.iload_n 3, 1) := by decide +kernel
theorem dX7_tick_93 : decode cX7_tick 93 = .ok (.bipush 6, 2) := by decide +kernel
theorem dX7_tick_95 : decode cX7_tick 95 = .ok (.iadd, 1) := by decide +kernel
theorem dX7_tick_96 : decode cX7_tick 96 = .ok (.iaload, 1) := by decide +kernel
theorem dX7_tick_97 : decode cX7_tick 97 = .ok (.iconst 1, 1) := by decide +kernel
theorem dX7_tick_98 : decode cX7_tick 98 = .ok (.if_icmp .ne 45, 3) := by decide +kernel
theorem dX7_tick_101 : decode cX7_tick 101 = .ok (.aload_n 0, 1) := by decide +kernel
theorem dX7_tick_102 : decode cX7_tick 102 = .ok (.iload_n 2, 1) := by decide +kernel
theorem dX7_tick_103 : decode cX7_tick 103 = .ok (.invokevirtual 94, 3) := by decide +kernel
theorem dX7_tick_106 : decode cX7_tick 106 = .ok (.ifCond .eq 37, 3) := by decide +kernel
theorem dX7_tick_109 : decode cX7_tick 109 = .ok (.aload_n 0, 1) := by decide +kernel
theorem dX7_tick_110 : decode cX7_tick 110 = .ok (.getfield 7, 3) := by decide +kernel
theorem dX7_tick_113 : decode cX7_tick 113 = .ok (.iload_n 3, 1) := by decide +kernel
theorem dX7_tick_114 : decode cX7_tick 114 = .ok (.bipush 7, 2) := by decide +kernel
theorem dX7_tick_116 : decode cX7_tick 116 = .ok (.iadd, 1) := by decide +kernel
theorem dX7_tick_117 : decode cX7_tick 117 = .ok (.iconst 1, 1) := by decide +kernel
theorem dX7_tick_118 : decode cX7_tick 118 = .ok (.iastore, 1) := by decide +kernel
theorem dX7_tick_119 : decode cX7_tick 119 = .ok (.aload_n 0, 1) := by decide +kernel
theorem dX7_tick_120 : decode cX7_tick 120 = .ok (.getfield 7, 3) := by decide +kernel
theorem dX7_tick_123 : decode cX7_tick 123 = .ok (.iload_n 3, 1) := by decide +kernel
theorem dX7_tick_124 : decode cX7_tick 124 = .ok (.bipush 8, 2) := by decide +kernel
theorem dX7_tick_126 : decode cX7_tick 126 = .ok (.iadd, 1) := by decide +kernel
theorem dX7_tick_127 : decode cX7_tick 127 = .ok (.dup2, 1) := by decide +kernel
theorem dX7_tick_128 : decode cX7_tick 128 = .ok (.iaload, 1) := by decide +kernel
theorem dX7_tick_129 : decode cX7_tick 129 = .ok (.iconst 1, 1) := by decide +kernel
theorem dX7_tick_130 : decode cX7_tick 130 = .ok (.iadd, 1) := by decide +kernel
theorem dX7_tick_131 : decode cX7_tick 131 = .ok (.iastore, 1) := by decide +kernel
theorem dX7_tick_132 : decode cX7_tick 132 = .ok (.aload_n 0, 1) := by decide +kernel
theorem dX7_tick_133 : decode cX7_tick 133 = .ok (.getfield 7, 3) := by decide +kernel
theorem dX7_tick_136 : decode cX7_tick 136 = .ok (.bipush 30, 2) := by decide +kernel
theorem dX7_tick_138 : decode cX7_tick 138 = .ok (.dup2, 1) := by decide +kernel
theorem dX7_tick_139 : decode cX7_tick 139 = .ok (.iaload, 1) := by decide +kernel
theorem dX7_tick_140 : decode cX7_tick 140 = .ok (.iconst 1, 1) := by decide +kernel
theorem dX7_tick_141 : decode cX7_tick 141 = .ok (.iadd, 1) := by decide +kernel
theorem dX7_tick_142 : decode cX7_tick 142 = .ok (.iastore, 1) := by decide +kernel
theorem dX7_tick_143 : decode cX7_tick 143 = .ok (.iinc 2 1, 3) := by decide +kernel
theorem dX7_tick_146 : decode cX7_tick 146 = .ok (.goto (-68), 3) := by decide +kernel
theorem dX7_tick_149 : decode cX7_tick 149 = .ok (.return_, 1) := by decide +kernel
theorem dX7_phase_0 : decode cX7_phase 0 = .ok (.aload_n 0, 1) := by decide +kernel
theorem dX7_phase_1 : decode cX7_phase 1 = .ok (.getfield 7, 3) := by decide +kernel
theorem dX7_phase_4 : decode cX7_phase 4 = .ok (.bipush 35, 2) := by decide +kernel
theorem dX7_phase_6 : decode cX7_phase 6 = .ok (.dup2, 1) := by decide +kernel
theorem dX7_phase_7 : decode cX7_phase 7 = .ok (.iaload, 1) := by decide +kernel
theorem dX7_phase_8 : decode cX7_phase 8 = .ok (.iconst 1, 1) := by decide +kernel
theorem dX7_phase_9 : decode cX7_phase 9 = .ok (.iadd, 1) := by decide +kernel
theorem dX7_phase_10 : decode cX7_phase 10 = .ok (.iastore, 1) := by decide +kernel
theorem dX7_phase_11 : decode cX7_phase 11 = .ok (.aload_n 0, 1) := by decide +kernel
theorem dX7_phase_12 : decode cX7_phase 12 = .ok (.getfield 7, 3) := by decide +kernel
theorem dX7_phase_15 : decode cX7_phase 15 = .ok (.bipush 28, 2) := by decide +kernel
theorem dX7_phase_17 : decode cX7_phase 17 = .ok (.dup2, 1) := by decide +kernel
theorem dX7_phase_18 : decode cX7_phase 18 = .ok (.iaload, 1) := by decide +kernel
theorem dX7_phase_19 : decode cX7_phase 19 = .ok (.iconst 1, 1) := by decide +kernel
theorem dX7_phase_20 : decode cX7_phase 20 = .ok (.iadd, 1) := by decide +kernel
theorem dX7_phase_21 : decode cX7_phase 21 = .ok (.iastore, 1) := by decide +kernel
theorem dX7_phase_22 : decode cX7_phase 22 = .ok (.aload_n 0, 1) := by decide +kernel
theorem dX7_phase_23 : decode cX7_phase 23 = .ok (.getfield 7, 3) := by decide +kernel
theorem dX7_phase_26 : decode cX7_phase 26 = .ok (.bipush 28, 2) := by decide +kernel
theorem dX7_phase_28 : decode cX7_phase 28 = .ok (.iaload, 1) := by decide +kernel
theorem dX7_phase_29 : decode cX7_phase 29 = .ok (.aload_n 0, 1) := by decide +kernel
theorem dX7_phase_30 : decode cX7_phase 30 = .ok (.getfield 7, 3) := by decide +kernel
theorem dX7_phase_33 : decode cX7_phase 33 = .ok (.bipush 39, 2) := by decide +kernel
theorem dX7_phase_35 : decode cX7_phase 35 = .ok (.iaload, 1) := by decide +kernel
theorem dX7_phase_36 : decode cX7_phase 36 = .ok (.if_icmp .ne 7, 3) := by decide +kernel
theorem dX7_phase_39 : decode cX7_phase 39 = .ok (.iconst 1, 1) := by decide +kernel
theorem dX7_phase_40 : decode cX7_phase 40 = .ok (.goto 4, 3) := by decide +kernel
theorem dX7_phase_43 : decode cX7_phase 43 = .ok (.iconst 0, 1) := by decide +kernel
theorem dX7_phase_44 : decode cX7_phase 44 = .ok (.istore_n 1, 1) := by decide +kernel
theorem dX7_phase_45 : decode cX7_phase 45 = .ok (.iload_n 1, 1) := by decide +kernel
theorem dX7_phase_46 : decode cX7_phase 46 = .ok (.ifCond .eq 15, 3) := by decide +kernel
theorem dX7_phase_49 : decode cX7_phase 49 = .ok (.aload_n 0, 1) := by decide +kernel
theorem dX7_phase_50 : decode cX7_phase 50 = .ok (.getfield 7, 3) := by decide +kernel
theorem dX7_phase_53 : decode cX7_phase 53 = .ok (.bipush 28, 2) := by decide +kernel
theorem dX7_phase_55 : decode cX7_phase 55 = .ok (.iconst 0, 1) := by decide +kernel
theorem dX7_phase_56 : decode cX7_phase 56 = .ok (.iastore, 1) := by decide +kernel
theorem dX7_phase_57 : decode cX7_phase 57 = .ok (.aload_n 0, 1) := by decide +kernel
theorem dX7_phase_58 : decode cX7_phase 58 = .ok (.invokevirtual 97, 3) := by decide +kernel
theorem dX7_phase_61 : decode cX7_phase 61 = .ok (.iload_n 1, 1) := by decide +kernel
theorem dX7_phase_62 : decode cX7_phase 62 = .ok (.ireturn, 1) := by decide +kernel
theorem dX7_passes_0 : decode cX7_passes 0 = .ok (.iconst 0, 1) := by decide +kernel
theorem dX7_passes_1 : decode cX7_passes 1 = .ok (.istore_n 2, 1) := by decide +kernel
theorem dX7_passes_2 : decode cX7_passes 2 = .ok (.iconst 0, 1) := by decide +kernel
theorem dX7_passes_3 : decode cX7_passes 3 = .ok (.istore_n 3, 1) := by decide +kernel
theorem dX7_passes_4 : decode cX7_passes 4 = .ok (.iload_n 3, 1) := by decide +kernel
theorem dX7_passes_5 : decode cX7_passes 5 = .ok (.iload_n 1, 1) := by decide +kernel
theorem dX7_passes_6 : decode cX7_passes 6 = .ok (.if_icmp .ge 24, 3) := by decide +kernel
theorem dX7_passes_9 : decode cX7_passes 9 = .ok (.iload_n 2, 1) := by decide +kernel
theorem dX7_passes_10 : decode cX7_passes 10 = .ok (.aload_n 0, 1) := by decide +kernel
theorem dX7_passes_11 : decode cX7_passes 11 = .ok (.invokevirtual 100, 3) := by decide +kernel
theorem dX7_passes_14 : decode cX7_passes 14 = .ok (.ifCond .eq 7, 3) := by decide +kernel
theorem dX7_passes_17 : decode cX7_passes 17 = .ok (.iconst 1, 1) := by decide +kernel
theorem dX7_passes_18 : decode cX7_passes 18 = .ok (.goto 4, 3) := by decide +kernel
theorem dX7_passes_21 : decode cX7_passes 21 = .ok (.iconst 0, 1) := by decide +kernel
theorem dX7_passes_22 : decode cX7_passes 22 = .ok (.iadd, 1) := by decide +kernel
theorem dX7_passes_23 : decode cX7_passes 23 = .ok (.istore_n 2, 1) := by decide +kernel
theorem dX7_passes_24 : decode cX7_passes 24 = .ok (.iinc 3 1, 3) := by decide +kernel
theorem dX7_passes_27 : decode cX7_passes 27 = .ok (.goto (-23), 3) := by decide +kernel
theorem dX7_passes_30 : decode cX7_passes 30 = .ok (.iload_n 2, 1) := by decide +kernel
theorem dX7_passes_31 : decode cX7_passes 31 = .ok (.ireturn, 1) := by decide +kernel
theorem dX7_write_0 : decode cX7_write 0 = .ok (.iload_n 1, 1) := by decide +kernel
theorem dX7_write_1 : decode cX7_write 1 = .ok (.invokestatic 103, 3) := by decide +kernel
theorem dX7_write_4 : decode cX7_write 4 = .ok (.ifCond .eq 14, 3) := by decide +kernel
theorem dX7_write_7 : decode cX7_write 7 = .ok (.iload_n 2, 1) := by decide +kernel
theorem dX7_write_8 : decode cX7_write 8 = .ok (.iconst 0, 1) := by decide +kernel
theorem dX7_write_9 : decode cX7_write 9 = .ok (.sipush 255, 3) := by decide +kernel
theorem dX7_write_12 : decode cX7_write 12 = .ok (.invokestatic 45, 3) := by decide +kernel
theorem dX7_write_15 : decode cX7_write 15 = .ok (.ifCond .ne 6, 3) := by decide +kernel
theorem dX7_write_18 : decode cX7_write 18 = .ok (.ldc 106, 2) := by decide +kernel
theorem dX7_write_20 : decode cX7_write 20 = .ok (.ireturn, 1) := by decide +kernel
theorem dX7_write_21 : decode cX7_write 21 = .ok (.aload_n 0, 1) := by decide +kernel
theorem dX7_write_22 : decode cX7_write 22 = .ok (.invokevirtual 107, 3) := by decide +kernel
theorem dX7_write_25 : decode cX7_write 25 = .ok (.aload_n 0, 1) := by decide +kernel
theorem dX7_write_26 : decode cX7_write 26 = .ok (.iload_n 1, 1) := by decide +kernel
theorem dX7_write_27 : decode cX7_write 27 = .ok (.iload_n 2, 1) := by decide +kernel
theorem dX7_write_28 : decode cX7_write 28 = .ok (.invokevirtual 84, 3) := by decide +kernel
theorem dX7_write_31 : decode cX7_write 31 = .ok (.aload_n 0, 1) := by decide +kernel
theorem dX7_write_32 : decode cX7_write 32 = .ok (.getfield 7, 3) := by decide +kernel
theorem dX7_write_35 : decode cX7_write 35 = .ok (.bipush 34, 2) := by decide +kernel
theorem dX7_write_37 : decode cX7_write 37 = .ok (.dup2, 1) := by decide +kernel
theorem dX7_write_38 : decode cX7_write 38 = .ok (.iaload, 1) := by decide +kernel
theorem dX7_write_39 : decode cX7_write 39 = .ok (.iconst 1, 1) := by decide +kernel
theorem dX7_write_40 : decode cX7_write 40 = .ok (.iadd, 1) := by decide +kernel
theorem dX7_write_41 : decode cX7_write 41 = .ok (.iastore, 1) := by decide +kernel
theorem dX7_write_42 : decode cX7_write 42 = .ok (.aload_n 0, 1) := by decide +kernel
theorem dX7_write_43 : decode cX7_write 43 = .ok (.getfield 7, 3) := by decide +kernel
theorem dX7_write_46 : decode cX7_write 46 = .ok (.iconst 0, 1) := by decide +kernel
theorem dX7_write_47 : decode cX7_write 47 = .ok (.iload_n 1, 1) := by decide +kernel
theorem dX7_write_48 : decode cX7_write 48 = .ok (.iadd, 1) := by decide +kernel
theorem dX7_write_49 : decode cX7_write 49 = .ok (.iaload, 1) := by decide +kernel
theorem dX7_write_50 : decode cX7_write 50 = .ok (.ireturn, 1) := by decide +kernel
theorem dX7_read_0 : decode cX7_read 0 = .ok (.iload_n 1, 1) := by decide +kernel
theorem dX7_read_1 : decode cX7_read 1 = .ok (.invokestatic 103, 3) := by decide +kernel
theorem dX7_read_4 : decode cX7_read 4 = .ok (.ifCond .ne 6, 3) := by decide +kernel
theorem dX7_read_7 : decode cX7_read 7 = .ok (.ldc 106, 2) := by decide +kernel
theorem dX7_read_9 : decode cX7_read 9 = .ok (.ireturn, 1) := by decide +kernel
theorem dX7_read_10 : decode cX7_read 10 = .ok (.aload_n 0, 1) := by decide +kernel
theorem dX7_read_11 : decode cX7_read 11 = .ok (.invokevirtual 107, 3) := by decide +kernel
theorem dX7_read_14 : decode cX7_read 14 = .ok (.aload_n 0, 1) := by decide +kernel
theorem dX7_read_15 : decode cX7_read 15 = .ok (.getfield 7, 3) := by decide +kernel
theorem dX7_read_18 : decode cX7_read 18 = .ok (.bipush 33, 2) := by decide +kernel
theorem dX7_read_20 : decode cX7_read 20 = .ok (.dup2, 1) := by decide +kernel
theorem dX7_read_21 : decode cX7_read 21 = .ok (.iaload, 1) := by decide +kernel
theorem dX7_read_22 : decode cX7_read 22 = .ok (.iconst 1, 1) := by decide +kernel
theorem dX7_read_23 : decode cX7_read 23 = .ok (.iadd, 1) := by decide +kernel
theorem dX7_read_24 : decode cX7_read 24 = .ok (.iastore, 1) := by decide +kernel
theorem dX7_read_25 : decode cX7_read 25 = .ok (.aload_n 0, 1) := by decide +kernel
theorem dX7_read_26 : decode cX7_read 26 = .ok (.getfield 7, 3) := by decide +kernel
theorem dX7_read_29 : decode cX7_read 29 = .ok (.iconst 0, 1) := by decide +kernel
theorem dX7_read_30 : decode cX7_read 30 = .ok (.iload_n 1, 1) := by decide +kernel
theorem dX7_read_31 : decode cX7_read 31 = .ok (.iadd, 1) := by decide +kernel
theorem dX7_read_32 : decode cX7_read 32 = .ok (.iaload, 1) := by decide +kernel
theorem dX7_read_33 : decode cX7_read 33 = .ok (.istore_n 2, 1) := by decide +kernel
theorem dX7_read_34 : decode cX7_read 34 = .ok (.aload_n 0, 1) := by decide +kernel
theorem dX7_read_35 : decode cX7_read 35 = .ok (.aload_n 0, 1) := by decide +kernel
theorem dX7_read_36 : decode cX7_read 36 = .ok (.getfield 7, 3) := by decide +kernel
theorem dX7_read_39 : decode cX7_read 39 = .ok (.bipush 37, 2) := by decide +kernel
theorem dX7_read_41 : decode cX7_read 41 = .ok (.iaload, 1) := by decide +kernel
theorem dX7_read_42 : decode cX7_read 42 = .ok (.invokevirtual 110, 3) := by decide +kernel
theorem dX7_read_45 : decode cX7_read 45 = .ok (.ifCond .ge 8, 3) := by decide +kernel
theorem dX7_read_48 : decode cX7_read 48 = .ok (.ldc 113, 2) := by decide +kernel
theorem dX7_read_50 : decode cX7_read 50 = .ok (.goto 4, 3) := by decide +kernel
theorem dX7_read_53 : decode cX7_read 53 = .ok (.iload_n 2, 1) := by decide +kernel
theorem dX7_read_54 : decode cX7_read 54 = .ok (.ireturn, 1) := by decide +kernel
theorem dX7_shows_0 : decode cX7_shows 0 = .ok (.iconst 0, 1) := by decide +kernel
theorem dX7_shows_1 : decode cX7_shows 1 = .ok (.istore_n 1, 1) := by decide +kernel
theorem dX7_shows_2 : decode cX7_shows 2 = .ok (.iload_n 1, 1) := by decide +kernel
theorem dX7_shows_3 : decode cX7_shows 3 = .ok (.bipush 7, 2) := by decide +kernel
theorem dX7_shows_5 : decode cX7_shows 5 = .ok (.if_icmp .ge 31, 3) := by decide +kernel
theorem dX7_shows_8 : decode cX7_shows 8 = .ok (.aload_n 0, 1) := by decide +kernel
theorem dX7_shows_9 : decode cX7_shows 9 = .ok (.getfield 31, 3) := by decide +kernel
theorem dX7_shows_12 : decode cX7_shows 12 = .ok (.bipush 7, 2) := by decide +kernel
theorem dX7_shows_14 : decode cX7_shows 14 = .ok (.aload_n 0, 1) := by decide +kernel
theorem dX7_shows_15 : decode cX7_shows 15 = .ok (.getfield 114, 3) := by decide +kernel
theorem dX7_shows_18 : decode cX7_shows 18 = .ok (.imul, 1) := by decide +kernel
theorem dX7_shows_19 : decode cX7_shows 19 = .ok (.iload_n 1, 1) := by decide +kernel
theorem dX7_shows_20 : decode cX7_shows 20 = .ok (.iadd, 1) := by decide +kernel
theorem dX7_shows_21 : decode cX7_shows 21 = .ok (.aload_n 0, 1) := by decide +kernel
theorem dX7_shows_22 : decode cX7_shows 22 = .ok (.getfield 7, 3) := by decide +kernel
theorem dX7_shows_25 : decode cX7_shows 25 = .ok (.iconst 0, 1) := by decide +kernel
theorem dX7_shows_26 : decode cX7_shows 26 = .ok (.iload_n 1, 1) := by decide +kernel
theorem dX7_shows_27 : decode cX7_shows 27 = .ok (.iadd, 1) := by decide +kernel
theorem dX7_shows_28 : decode cX7_shows 28 = .ok (.iaload, 1) := by decide +kernel
theorem dX7_shows_29 : decode cX7_shows 29 = .ok (.iastore, 1) := by decide +kernel
theorem dX7_shows_30 : decode cX7_shows 30 = .ok (.iinc 1 1, 3) := by decide +kernel
theorem dX7_shows_33 : decode cX7_shows 33 = .ok (.goto (-31), 3) := by decide +kernel
theorem dX7_shows_36 : decode cX7_shows 36 = .ok (.aload_n 0, 1) := by decide +kernel
theorem dX7_shows_37 : decode cX7_shows 37 = .ok (.dup, 1) := by decide +kernel
theorem dX7_shows_38 : decode cX7_shows 38 = .ok (.getfield 114, 3) := by decide +kernel
theorem dX7_shows_41 : decode cX7_shows 41 = .ok (.iconst 1, 1) := by decide +kernel
theorem dX7_shows_42 : decode cX7_shows 42 = .ok (.iadd, 1) := by decide +kernel
theorem dX7_shows_43 : decode cX7_shows 43 = .ok (.putfield 114, 3) := by decide +kernel
theorem dX7_shows_46 : decode cX7_shows 46 = .ok (.return_, 1) := by decide +kernel
theorem dX7_readsAll_0 : decode cX7_readsAll 0 = .ok (.aload_n 0, 1) := by decide +kernel
theorem dX7_readsAll_1 : decode cX7_readsAll 1 = .ok (.iconst 0, 1) := by decide +kernel
theorem dX7_readsAll_2 : decode cX7_readsAll 2 = .ok (.putfield 114, 3) := by decide +kernel
theorem dX7_readsAll_5 : decode cX7_readsAll 5 = .ok (.aload_n 0, 1) := by decide +kernel
theorem dX7_readsAll_6 : decode cX7_readsAll 6 = .ok (.invokevirtual 117, 3) := by decide +kernel
theorem dX7_readsAll_9 : decode cX7_readsAll 9 = .ok (.iconst 0, 1) := by decide +kernel
theorem dX7_readsAll_10 : decode cX7_readsAll 10 = .ok (.istore_n 1, 1) := by decide +kernel
theorem dX7_readsAll_11 : decode cX7_readsAll 11 = .ok (.iload_n 1, 1) := by decide +kernel
theorem dX7_readsAll_12 : decode cX7_readsAll 12 = .ok (.bipush 7, 2) := by decide +kernel
theorem dX7_readsAll_14 : decode cX7_readsAll 14 = .ok (.if_icmp .ge 78, 3) := by decide +kernel
theorem dX7_readsAll_17 : decode cX7_readsAll 17 = .ok (.aload_n 0, 1) := by decide +kernel
theorem dX7_readsAll_18 : decode cX7_readsAll 18 = .ok (.getfield 7, 3) := by decide +kernel
theorem dX7_readsAll_21 : decode cX7_readsAll 21 = .ok (.bipush 38, 2) := by decide +kernel
theorem dX7_readsAll_23 : decode cX7_readsAll 23 = .ok (.iaload, 1) := by decide +kernel
theorem dX7_readsAll_24 : decode cX7_readsAll 24 = .ok (.ifCond .ne 7, 3) := by decide +kernel
theorem dX7_readsAll_27 : decode cX7_readsAll 27 = .ok (.iload_n 1, 1) := by decide +kernel
theorem dX7_readsAll_28 : decode cX7_readsAll 28 = .ok (.goto 7, 3) := by decide +kernel
theorem dX7_readsAll_31 : decode cX7_readsAll 31 = .ok (.bipush 6, 2) := by decide +kernel
theorem dX7_readsAll_33 : decode cX7_readsAll 33 = .ok (.iload_n 1, 1) := by decide +kernel
theorem dX7_readsAll_34 : decode cX7_readsAll 34 = .ok (.isub, 1) := by decide +kernel
theorem dX7_readsAll_35 : decode cX7_readsAll 35 = .ok (.istore_n 2, 1) := by decide +kernel
theorem dX7_readsAll_36 : decode cX7_readsAll 36 = .ok (.aload_n 0, 1) := by decide +kernel
theorem dX7_readsAll_37 : decode cX7_readsAll 37 = .ok (.getfield 25, 3) := by decide +kernel
theorem dX7_readsAll_40 : decode cX7_readsAll 40 = .ok (.iload_n 2, 1) := by decide +kernel
theorem dX7_readsAll_41 : decode cX7_readsAll 41 = .ok (.aload_n 0, 1) := by decide +kernel
theorem dX7_readsAll_42 : decode cX7_readsAll 42 = .ok (.getfield 7, 3) := by decide +kernel
theorem dX7_readsAll_45 : decode cX7_readsAll 45 = .ok (.iconst 0, 1) := by decide +kernel
theorem dX7_readsAll_46 : decode cX7_readsAll 46 = .ok (.iload_n 2, 1) := by decide +kernel
theorem dX7_readsAll_47 : decode cX7_readsAll 47 = .ok (.iadd, 1) := by decide +kernel
theorem dX7_readsAll_48 : decode cX7_readsAll 48 = .ok (.iaload, 1) := by decide +kernel
theorem dX7_readsAll_49 : decode cX7_readsAll 49 = .ok (.iastore, 1) := by decide +kernel
theorem dX7_readsAll_50 : decode cX7_readsAll 50 = .ok (.iconst 0, 1) := by decide +kernel
theorem dX7_readsAll_51 : decode cX7_readsAll 51 = .ok (.istore_n 3, 1) := by decide +kernel
theorem dX7_readsAll_52 : decode cX7_readsAll 52 = .ok (.iload_n 3, 1) := by decide +kernel
theorem dX7_readsAll_53 : decode cX7_readsAll 53 = .ok (.aload_n 0, 1) := by decide +kernel
theorem dX7_readsAll_54 : decode cX7_readsAll 54 = .ok (.getfield 7, 3) := by decide +kernel
theorem dX7_readsAll_57 : decode cX7_readsAll 57 = .ok (.bipush 37, 2) := by decide +kernel
theorem dX7_readsAll_59 : decode cX7_readsAll 59 = .ok (.iaload, 1) := by decide +kernel
theorem dX7_readsAll_60 : decode cX7_readsAll 60 = .ok (.if_icmp .ge 26, 3) := by decide +kernel
theorem dX7_readsAll_63 : decode cX7_readsAll 63 = .ok (.aload_n 0, 1) := by decide +kernel
theorem dX7_readsAll_64 : decode cX7_readsAll 64 = .ok (.invokevirtual 100, 3) := by decide +kernel
theorem dX7_readsAll_67 : decode cX7_readsAll 67 = .ok (.ifCond .eq 13, 3) := by decide +kernel
theorem dX7_readsAll_70 : decode cX7_readsAll 70 = .ok (.iload_n 1, 1) := by decide +kernel
theorem dX7_readsAll_71 : decode cX7_readsAll 71 = .ok (.bipush 6, 2) := by decide +kernel
theorem dX7_readsAll_73 : decode cX7_readsAll 73 = .ok (.if_icmp .ge 7, 3) := by decide +kernel
theorem dX7_readsAll_76 : decode cX7_readsAll 76 = .ok (.aload_n 0, 1) := by decide +kernel
theorem dX7_readsAll_77 : decode cX7_readsAll 77 = .ok (.invokevirtual 117, 3) := by decide +kernel
theorem dX7_readsAll_80 : decode cX7_readsAll 80 = .ok (.iinc 3 1, 3) := by decide +kernel
theorem dX7_readsAll_83 : decode cX7_readsAll 83 = .ok (.goto (-31), 3) := by decide +kernel
theorem dX7_readsAll_86 : decode cX7_readsAll 86 = .ok (.iinc 1 1, 3) := by decide +kernel
theorem dX7_readsAll_89 : decode cX7_readsAll 89 = .ok (.goto (-78), 3) := by decide +kernel
theorem dX7_readsAll_92 : decode cX7_readsAll 92 = .ok (.return_, 1) := by decide +kernel
theorem dX7_readsAtOnce_0 : decode cX7_readsAtOnce 0 = .ok (.aload_n 0, 1) := by decide +kernel
theorem dX7_readsAtOnce_1 : decode cX7_readsAtOnce 1 = .ok (.iconst 0, 1) := by decide +kernel
theorem dX7_readsAtOnce_2 : decode cX7_readsAtOnce 2 = .ok (.putfield 114, 3) := by decide +kernel
theorem dX7_readsAtOnce_5 : decode cX7_readsAtOnce 5 = .ok (.aload_n 0, 1) := by decide +kernel
theorem dX7_readsAtOnce_6 : decode cX7_readsAtOnce 6 = .ok (.invokevirtual 117, 3) := by decide +kernel
theorem dX7_readsAtOnce_9 : decode cX7_readsAtOnce 9 = .ok (.iconst 0, 1) := by decide +kernel
theorem dX7_readsAtOnce_10 : decode cX7_readsAtOnce 10 = .ok (.istore_n 1, 1) := by decide +kernel
theorem dX7_readsAtOnce_11 : decode cX7_readsAtOnce 11 = .ok (.iload_n 1, 1) := by decide +kernel
theorem dX7_readsAtOnce_12 : decode cX7_readsAtOnce 12 = .ok (.bipush 7, 2) := by decide +kernel
theorem dX7_readsAtOnce_14 : decode cX7_readsAtOnce 14 = .ok (.if_icmp .ge 23, 3) := by decide +kernel
theorem dX7_readsAtOnce_17 : decode cX7_readsAtOnce 17 = .ok (.aload_n 0, 1) := by decide +kernel
theorem dX7_readsAtOnce_18 : decode cX7_readsAtOnce 18 = .ok (.getfield 25, 3) := by decide +kernel
theorem dX7_readsAtOnce_21 : decode cX7_readsAtOnce 21 = .ok (.iload_n 1, 1) := by decide +kernel
theorem dX7_readsAtOnce_22 : decode cX7_readsAtOnce 22 = .ok (.aload_n 0, 1) := by decide +kernel
theorem dX7_readsAtOnce_23 : decode cX7_readsAtOnce 23 = .ok (.getfield 7, 3) := by decide +kernel
theorem dX7_readsAtOnce_26 : decode cX7_readsAtOnce 26 = .ok (.iconst 0, 1) := by decide +kernel
theorem dX7_readsAtOnce_27 : decode cX7_readsAtOnce 27 = .ok (.iload_n 1, 1) := by decide +kernel
theorem dX7_readsAtOnce_28 : decode cX7_readsAtOnce 28 = .ok (.iadd, 1) := by decide +kernel
theorem dX7_readsAtOnce_29 : decode cX7_readsAtOnce 29 = .ok (.iaload, 1) := by decide +kernel
theorem dX7_readsAtOnce_30 : decode cX7_readsAtOnce 30 = .ok (.iastore, 1) := by decide +kernel
theorem dX7_readsAtOnce_31 : decode cX7_readsAtOnce 31 = .ok (.iinc 1 1, 3) := by decide +kernel
theorem dX7_readsAtOnce_34 : decode cX7_readsAtOnce 34 = .ok (.goto (-23), 3) := by decide +kernel
theorem dX7_readsAtOnce_37 : decode cX7_readsAtOnce 37 = .ok (.aload_n 0, 1) := by decide +kernel
theorem dX7_readsAtOnce_38 : decode cX7_readsAtOnce 38 = .ok (.dup, 1) := by decide +kernel
theorem dX7_readsAtOnce_39 : decode cX7_readsAtOnce 39 = .ok (.getfield 114, 3) := by decide +kernel
theorem dX7_readsAtOnce_42 : decode cX7_readsAtOnce 42 = .ok (.aload_n 0, 1) := by decide +kernel
theorem dX7_readsAtOnce_43 : decode cX7_readsAtOnce 43 = .ok (.bipush 7, 2) := by decide +kernel
theorem dX7_readsAtOnce_45 : decode cX7_readsAtOnce 45 = .ok (.aload_n 0, 1) := by decide +kernel
theorem dX7_readsAtOnce_46 : decode cX7_readsAtOnce 46 = .ok (.getfield 7, 3) := by decide +kernel
theorem dX7_readsAtOnce_49 : decode cX7_readsAtOnce 49 = .ok (.bipush 37, 2) := by decide +kernel
theorem dX7_readsAtOnce_51 : decode cX7_readsAtOnce 51 = .ok (.iaload, 1) := by decide +kernel
theorem dX7_readsAtOnce_52 : decode cX7_readsAtOnce 52 = .ok (.imul, 1) := by decide +kernel
theorem dX7_readsAtOnce_53 : decode cX7_readsAtOnce 53 = .ok (.invokevirtual 110, 3) := by decide +kernel
theorem dX7_readsAtOnce_56 : decode cX7_readsAtOnce 56 = .ok (.ifCond .ge 7, 3) := by decide +kernel
theorem dX7_readsAtOnce_59 : decode cX7_readsAtOnce 59 = .ok (.iconst 1, 1) := by decide +kernel
theorem dX7_readsAtOnce_60 : decode cX7_readsAtOnce 60 = .ok (.goto 4, 3) := by decide +kernel
theorem dX7_readsAtOnce_63 : decode cX7_readsAtOnce 63 = .ok (.iconst 0, 1) := by decide +kernel
theorem dX7_readsAtOnce_64 : decode cX7_readsAtOnce 64 = .ok (.isub, 1) := by decide +kernel
theorem dX7_readsAtOnce_65 : decode cX7_readsAtOnce 65 = .ok (.putfield 114, 3) := by decide +kernel
theorem dX7_readsAtOnce_68 : decode cX7_readsAtOnce 68 = .ok (.return_, 1) := by decide +kernel
theorem dX7_isAsAhead_0 : decode cX7_isAsAhead 0 = .ok (.iconst 1, 1) := by decide +kernel
theorem dX7_isAsAhead_1 : decode cX7_isAsAhead 1 = .ok (.istore_n 1, 1) := by decide +kernel
theorem dX7_isAsAhead_2 : decode cX7_isAsAhead 2 = .ok (.iconst 0, 1) := by decide +kernel
theorem dX7_isAsAhead_3 : decode cX7_isAsAhead 3 = .ok (.istore_n 2, 1) := by decide +kernel
theorem dX7_isAsAhead_4 : decode cX7_isAsAhead 4 = .ok (.iload_n 2, 1) := by decide +kernel
theorem dX7_isAsAhead_5 : decode cX7_isAsAhead 5 = .ok (.bipush 7, 2) := by decide +kernel
theorem dX7_isAsAhead_7 : decode cX7_isAsAhead 7 = .ok (.if_icmp .ge 34, 3) := by decide +kernel
theorem dX7_isAsAhead_10 : decode cX7_isAsAhead 10 = .ok (.iload_n 1, 1) := by decide +kernel
theorem dX7_isAsAhead_11 : decode cX7_isAsAhead 11 = .ok (.ifCond .eq 22, 3) := by decide +kernel
theorem dX7_isAsAhead_14 : decode cX7_isAsAhead 14 = .ok (.aload_n 0, 1) := by decide +kernel
theorem dX7_isAsAhead_15 : decode cX7_isAsAhead 15 = .ok (.getfield 25, 3) := by decide +kernel
theorem dX7_isAsAhead_18 : decode cX7_isAsAhead 18 = .ok (.iload_n 2, 1) := by decide +kernel
theorem dX7_isAsAhead_19 : decode cX7_isAsAhead 19 = .ok (.iaload, 1) := by decide +kernel
theorem dX7_isAsAhead_20 : decode cX7_isAsAhead 20 = .ok (.aload_n 0, 1) := by decide +kernel
theorem dX7_isAsAhead_21 : decode cX7_isAsAhead 21 = .ok (.getfield 28, 3) := by decide +kernel
theorem dX7_isAsAhead_24 : decode cX7_isAsAhead 24 = .ok (.iload_n 2, 1) := by decide +kernel
theorem dX7_isAsAhead_25 : decode cX7_isAsAhead 25 = .ok (.iaload, 1) := by decide +kernel
theorem dX7_isAsAhead_26 : decode cX7_isAsAhead 26 = .ok (.if_icmp .ne 7, 3) := by decide +kernel
theorem dX7_isAsAhead_29 : decode cX7_isAsAhead 29 = .ok (.iconst 1, 1) := by decide +kernel
theorem dX7_isAsAhead_30 : decode cX7_isAsAhead 30 = .ok (.goto 4, 3) := by decide +kernel
theorem dX7_isAsAhead_33 : decode cX7_isAsAhead 33 = .ok (.iconst 0, 1) := by decide +kernel
theorem dX7_isAsAhead_34 : decode cX7_isAsAhead 34 = .ok (.istore_n 1, 1) := by decide +kernel
theorem dX7_isAsAhead_35 : decode cX7_isAsAhead 35 = .ok (.iinc 2 1, 3) := by decide +kernel
theorem dX7_isAsAhead_38 : decode cX7_isAsAhead 38 = .ok (.goto (-34), 3) := by decide +kernel
theorem dX7_isAsAhead_41 : decode cX7_isAsAhead 41 = .ok (.iload_n 1, 1) := by decide +kernel
theorem dX7_isAsAhead_42 : decode cX7_isAsAhead 42 = .ok (.ireturn, 1) := by decide +kernel
theorem dX7_readsAgain_0 : decode cX7_readsAgain 0 = .ok (.iconst 1, 1) := by decide +kernel
theorem dX7_readsAgain_1 : decode cX7_readsAgain 1 = .ok (.istore_n 1, 1) := by decide +kernel
theorem dX7_readsAgain_2 : decode cX7_readsAgain 2 = .ok (.aload_n 0, 1) := by decide +kernel
theorem dX7_readsAgain_3 : decode cX7_readsAgain 3 = .ok (.invokevirtual 119, 3) := by decide +kernel
theorem dX7_readsAgain_6 : decode cX7_readsAgain 6 = .ok (.iconst 1, 1) := by decide +kernel
theorem dX7_readsAgain_7 : decode cX7_readsAgain 7 = .ok (.istore_n 2, 1) := by decide +kernel
theorem dX7_readsAgain_8 : decode cX7_readsAgain 8 = .ok (.iload_n 2, 1) := by decide +kernel
theorem dX7_readsAgain_9 : decode cX7_readsAgain 9 = .ok (.ifCond .eq 57, 3) := by decide +kernel
theorem dX7_readsAgain_12 : decode cX7_readsAgain 12 = .ok (.iconst 0, 1) := by decide +kernel
theorem dX7_readsAgain_13 : decode cX7_readsAgain 13 = .ok (.istore_n 3, 1) := by decide +kernel
theorem dX7_readsAgain_14 : decode cX7_readsAgain 14 = .ok (.iload_n 3, 1) := by decide +kernel
theorem dX7_readsAgain_15 : decode cX7_readsAgain 15 = .ok (.bipush 7, 2) := by decide +kernel
theorem dX7_readsAgain_17 : decode cX7_readsAgain 17 = .ok (.if_icmp .ge 21, 3) := by decide +kernel
theorem dX7_readsAgain_20 : decode cX7_readsAgain 20 = .ok (.aload_n 0, 1) := by decide +kernel
theorem dX7_readsAgain_21 : decode cX7_readsAgain 21 = .ok (.getfield 28, 3) := by decide +kernel
theorem dX7_readsAgain_24 : decode cX7_readsAgain 24 = .ok (.iload_n 3, 1) := by decide +kernel
theorem dX7_readsAgain_25 : decode cX7_readsAgain 25 = .ok (.aload_n 0, 1) := by decide +kernel
theorem dX7_readsAgain_26 : decode cX7_readsAgain 26 = .ok (.getfield 25, 3) := by decide +kernel
theorem dX7_readsAgain_29 : decode cX7_readsAgain 29 = .ok (.iload_n 3, 1) := by decide +kernel
theorem dX7_readsAgain_30 : decode cX7_readsAgain 30 = .ok (.iaload, 1) := by decide +kernel
theorem dX7_readsAgain_31 : decode cX7_readsAgain 31 = .ok (.iastore, 1) := by decide +kernel
theorem dX7_readsAgain_32 : decode cX7_readsAgain 32 = .ok (.iinc 3 1, 3) := by decide +kernel
theorem dX7_readsAgain_35 : decode cX7_readsAgain 35 = .ok (.goto (-21), 3) := by decide +kernel
theorem dX7_readsAgain_38 : decode cX7_readsAgain 38 = .ok (.aload_n 0, 1) := by decide +kernel
theorem dX7_readsAgain_39 : decode cX7_readsAgain 39 = .ok (.invokevirtual 119, 3) := by decide +kernel
theorem dX7_readsAgain_42 : decode cX7_readsAgain 42 = .ok (.iinc 1 1, 3) := by decide +kernel
theorem dX7_readsAgain_45 : decode cX7_readsAgain 45 = .ok (.iload_n 1, 1) := by decide +kernel
theorem dX7_readsAgain_46 : decode cX7_readsAgain 46 = .ok (.iconst 5, 1) := by decide +kernel
theorem dX7_readsAgain_47 : decode cX7_readsAgain 47 = .ok (.if_icmp .ge 14, 3) := by decide +kernel
theorem dX7_readsAgain_50 : decode cX7_readsAgain 50 = .ok (.aload_n 0, 1) := by decide +kernel
theorem dX7_readsAgain_51 : decode cX7_readsAgain 51 = .ok (.invokevirtual 122, 3) := by decide +kernel
theorem dX7_readsAgain_54 : decode cX7_readsAgain 54 = .ok (.ifCond .ne 7, 3) := by decide +kernel
theorem dX7_readsAgain_57 : decode cX7_readsAgain 57 = .ok (.iconst 1, 1) := by decide +kernel
theorem dX7_readsAgain_58 : decode cX7_readsAgain 58 = .ok (.goto 4, 3) := by decide +kernel
theorem dX7_readsAgain_61 : decode cX7_readsAgain 61 = .ok (.iconst 0, 1) := by decide +kernel
theorem dX7_readsAgain_62 : decode cX7_readsAgain 62 = .ok (.istore_n 2, 1) := by decide +kernel
theorem dX7_readsAgain_63 : decode cX7_readsAgain 63 = .ok (.goto (-55), 3) := by decide +kernel
theorem dX7_readsAgain_66 : decode cX7_readsAgain 66 = .ok (.iload_n 1, 1) := by decide +kernel
theorem dX7_readsAgain_67 : decode cX7_readsAgain 67 = .ok (.ireturn, 1) := by decide +kernel
theorem dX7_wasShown_0 : decode cX7_wasShown 0 = .ok (.iconst 0, 1) := by decide +kernel
theorem dX7_wasShown_1 : decode cX7_wasShown 1 = .ok (.istore_n 1, 1) := by decide +kernel
theorem dX7_wasShown_2 : decode cX7_wasShown 2 = .ok (.iload_n 1, 1) := by decide +kernel
theorem dX7_wasShown_3 : decode cX7_wasShown 3 = .ok (.aload_n 0, 1) := by decide +kernel
theorem dX7_wasShown_4 : decode cX7_wasShown 4 = .ok (.getfield 114, 3) := by decide +kernel
theorem dX7_wasShown_7 : decode cX7_wasShown 7 = .ok (.if_icmp .ge 61, 3) := by decide +kernel
theorem dX7_wasShown_10 : decode cX7_wasShown 10 = .ok (.iconst 1, 1) := by decide +kernel
theorem dX7_wasShown_11 : decode cX7_wasShown 11 = .ok (.istore_n 2, 1) := by decide +kernel
theorem dX7_wasShown_12 : decode cX7_wasShown 12 = .ok (.iconst 0, 1) := by decide +kernel
theorem dX7_wasShown_13 : decode cX7_wasShown 13 = .ok (.istore_n 3, 1) := by decide +kernel
theorem dX7_wasShown_14 : decode cX7_wasShown 14 = .ok (.iload_n 3, 1) := by decide +kernel
theorem dX7_wasShown_15 : decode cX7_wasShown 15 = .ok (.bipush 7, 2) := by decide +kernel
theorem dX7_wasShown_17 : decode cX7_wasShown 17 = .ok (.if_icmp .ge 39, 3) := by decide +kernel
theorem dX7_wasShown_20 : decode cX7_wasShown 20 = .ok (.iload_n 2, 1) := by decide +kernel
theorem dX7_wasShown_21 : decode cX7_wasShown 21 = .ok (.ifCond .eq 27, 3) := by decide +kernel
theorem dX7_wasShown_24 : decode cX7_wasShown 24 = .ok (.aload_n 0, 1) := by decide +kernel
theorem dX7_wasShown_25 : decode cX7_wasShown 25 = .ok (.getfield 25, 3) := by decide +kernel
theorem dX7_wasShown_28 : decode cX7_wasShown 28 = .ok (.iload_n 3, 1) := by decide +kernel
theorem dX7_wasShown_29 : decode cX7_wasShown 29 = .ok (.iaload, 1) := by decide +kernel
theorem dX7_wasShown_30 : decode cX7_wasShown 30 = .ok (.aload_n 0, 1) := by decide +kernel
theorem dX7_wasShown_31 : decode cX7_wasShown 31 = .ok (.getfield 31, 3) := by decide +kernel
theorem dX7_wasShown_34 : decode cX7_wasShown 34 = .ok (.bipush 7, 2) := by decide +kernel
theorem dX7_wasShown_36 : decode cX7_wasShown 36 = .ok (.iload_n 1, 1) := by decide +kernel
theorem dX7_wasShown_37 : decode cX7_wasShown 37 = .ok (.imul, 1) := by decide +kernel
theorem dX7_wasShown_38 : decode cX7_wasShown 38 = .ok (.iload_n 3, 1) := by decide +kernel
theorem dX7_wasShown_39 : decode cX7_wasShown 39 = .ok (.iadd, 1) := by decide +kernel
theorem dX7_wasShown_40 : decode cX7_wasShown 40 = .ok (.iaload, 1) := by decide +kernel
theorem dX7_wasShown_41 : decode cX7_wasShown 41 = .ok (.if_icmp .ne 7, 3) := by decide +kernel
theorem dX7_wasShown_44 : decode cX7_wasShown 44 = .ok (.iconst 1, 1) := by decide +kernel
theorem dX7_wasShown_45 : decode cX7_wasShown 45 = .ok (.goto 4, 3) := by decide +kernel
theorem dX7_wasShown_48 : decode cX7_wasShown 48 = .ok (.iconst 0, 1) := by decide +kernel
theorem dX7_wasShown_49 : decode cX7_wasShown 49 = .ok (.istore_n 2, 1) := by decide +kernel
theorem dX7_wasShown_50 : decode cX7_wasShown 50 = .ok (.iinc 3 1, 3) := by decide +kernel
theorem dX7_wasShown_53 : decode cX7_wasShown 53 = .ok (.goto (-39), 3) := by decide +kernel
theorem dX7_wasShown_56 : decode cX7_wasShown 56 = .ok (.iload_n 2, 1) := by decide +kernel
theorem dX7_wasShown_57 : decode cX7_wasShown 57 = .ok (.ifCond .eq 5, 3) := by decide +kernel
theorem dX7_wasShown_60 : decode cX7_wasShown 60 = .ok (.iconst 1, 1) := by decide +kernel
theorem dX7_wasShown_61 : decode cX7_wasShown 61 = .ok (.ireturn, 1) := by decide +kernel
theorem dX7_wasShown_62 : decode cX7_wasShown 62 = .ok (.iinc 1 1, 3) := by decide +kernel
theorem dX7_wasShown_65 : decode cX7_wasShown 65 = .ok (.goto (-63), 3) := by decide +kernel
theorem dX7_wasShown_68 : decode cX7_wasShown 68 = .ok (.iconst 0, 1) := by decide +kernel
theorem dX7_wasShown_69 : decode cX7_wasShown 69 = .ok (.ireturn, 1) := by decide +kernel
theorem dX7_bursts_0 : decode cX7_bursts 0 = .ok (.iconst 1, 1) := by decide +kernel
theorem dX7_bursts_1 : decode cX7_bursts 1 = .ok (.istore_n 2, 1) := by decide +kernel
theorem dX7_bursts_2 : decode cX7_bursts 2 = .ok (.iload_n 1, 1) := by decide +kernel
theorem dX7_bursts_3 : decode cX7_bursts 3 = .ok (.ifCond .ne 10, 3) := by decide +kernel
theorem dX7_bursts_6 : decode cX7_bursts 6 = .ok (.aload_n 0, 1) := by decide +kernel
theorem dX7_bursts_7 : decode cX7_bursts 7 = .ok (.invokevirtual 119, 3) := by decide +kernel
theorem dX7_bursts_10 : decode cX7_bursts 10 = .ok (.goto 20, 3) := by decide +kernel
theorem dX7_bursts_13 : decode cX7_bursts 13 = .ok (.iload_n 1, 1) := by decide +kernel
theorem dX7_bursts_14 : decode cX7_bursts 14 = .ok (.iconst 1, 1) := by decide +kernel
theorem dX7_bursts_15 : decode cX7_bursts 15 = .ok (.if_icmp .ne 10, 3) := by decide +kernel
theorem dX7_bursts_18 : decode cX7_bursts 18 = .ok (.aload_n 0, 1) := by decide +kernel
theorem dX7_bursts_19 : decode cX7_bursts 19 = .ok (.invokevirtual 125, 3) := by decide +kernel
theorem dX7_bursts_22 : decode cX7_bursts 22 = .ok (.goto 8, 3) := by decide +kernel
theorem dX7_bursts_25 : decode cX7_bursts 25 = .ok (.aload_n 0, 1) := by decide +kernel
theorem dX7_bursts_26 : decode cX7_bursts 26 = .ok (.invokevirtual 128, 3) := by decide +kernel
theorem dX7_bursts_29 : decode cX7_bursts 29 = .ok (.istore_n 2, 1) := by decide +kernel
theorem dX7_bursts_30 : decode cX7_bursts 30 = .ok (.aload_n 0, 1) := by decide +kernel
theorem dX7_bursts_31 : decode cX7_bursts 31 = .ok (.invokevirtual 131, 3) := by decide +kernel
theorem dX7_bursts_34 : decode cX7_bursts 34 = .ok (.ifCond .eq 7, 3) := by decide +kernel
theorem dX7_bursts_37 : decode cX7_bursts 37 = .ok (.iconst 0, 1) := by decide +kernel
theorem dX7_bursts_38 : decode cX7_bursts 38 = .ok (.goto 4, 3) := by decide +kernel
theorem dX7_bursts_41 : decode cX7_bursts 41 = .ok (.iconst 1, 1) := by decide +kernel
theorem dX7_bursts_42 : decode cX7_bursts 42 = .ok (.istore_n 3, 1) := by decide +kernel
theorem dX7_bursts_43 : decode cX7_bursts 43 = .ok (.bipush 59, 2) := by decide +kernel
theorem dX7_bursts_45 : decode cX7_bursts 45 = .ok (.istore 4, 2) := by decide +kernel
theorem dX7_bursts_47 : decode cX7_bursts 47 = .ok (.iload 4, 2) := by decide +kernel
theorem dX7_bursts_49 : decode cX7_bursts 49 = .ok (.bipush 10, 2) := by decide +kernel
theorem dX7_bursts_51 : decode cX7_bursts 51 = .ok (.if_icmp .lt 32, 3) := by decide +kernel
theorem dX7_bursts_54 : decode cX7_bursts 54 = .ok (.aload_n 0, 1) := by decide +kernel
theorem dX7_bursts_55 : decode cX7_bursts 55 = .ok (.getfield 7, 3) := by decide +kernel
theorem dX7_bursts_58 : decode cX7_bursts 58 = .ok (.bipush 67, 2) := by decide +kernel
theorem dX7_bursts_60 : decode cX7_bursts 60 = .ok (.iload 4, 2) := by decide +kernel
theorem dX7_bursts_62 : decode cX7_bursts 62 = .ok (.iadd, 1) := by decide +kernel
theorem dX7_bursts_63 : decode cX7_bursts 63 = .ok (.aload_n 0, 1) := by decide +kernel
theorem dX7_bursts_64 : decode cX7_bursts 64 = .ok (.getfield 7, 3) := by decide +kernel
theorem dX7_bursts_67 : decode cX7_bursts 67 = .ok (.bipush 67, 2) := by decide +kernel
theorem dX7_bursts_69 : decode cX7_bursts 69 = .ok (.iload 4, 2) := by decide +kernel
theorem dX7_bursts_71 : decode cX7_bursts 71 = .ok (.iadd, 1) := by decide +kernel
theorem dX7_bursts_72 : decode cX7_bursts 72 = .ok (.bipush 10, 2) := by decide +kernel
theorem dX7_bursts_74 : decode cX7_bursts 74 = .ok (.isub, 1) := by decide +kernel
theorem dX7_bursts_75 : decode cX7_bursts 75 = .ok (.iaload, 1) := by decide +kernel
theorem dX7_bursts_76 : decode cX7_bursts 76 = .ok (.iastore, 1) := by decide +kernel
theorem dX7_bursts_77 : decode cX7_bursts 77 = .ok (.iinc 4 (-1), 3) := by decide +kernel
theorem dX7_bursts_80 : decode cX7_bursts 80 = .ok (.goto (-33), 3) := by decide +kernel
theorem dX7_bursts_83 : decode cX7_bursts 83 = .ok (.iconst 0, 1) := by decide +kernel
theorem dX7_bursts_84 : decode cX7_bursts 84 = .ok (.istore 4, 2) := by decide +kernel
theorem dX7_bursts_86 : decode cX7_bursts 86 = .ok (.iload 4, 2) := by decide +kernel
theorem dX7_bursts_88 : decode cX7_bursts 88 = .ok (.bipush 7, 2) := by decide +kernel
theorem dX7_bursts_90 : decode cX7_bursts 90 = .ok (.if_icmp .ge 26, 3) := by decide +kernel
theorem dX7_bursts_93 : decode cX7_bursts 93 = .ok (.aload_n 0, 1) := by decide +kernel
theorem dX7_bursts_94 : decode cX7_bursts 94 = .ok (.getfield 7, 3) := by decide +kernel
theorem dX7_bursts_97 : decode cX7_bursts 97 = .ok (.bipush 67, 2) := by decide +kernel
theorem dX7_bursts_99 : decode cX7_bursts 99 = .ok (.iload 4, 2) := by decide +kernel
theorem dX7_bursts_101 : decode cX7_bursts 101 = .ok (.iadd, 1) := by decide +kernel
theorem dX7_bursts_102 : decode cX7_bursts 102 = .ok (.aload_n 0, 1) := by decide +kernel
theorem dX7_bursts_103 : decode cX7_bursts 103 = .ok (.getfield 25, 3) := by decide +kernel
theorem dX7_bursts_106 : decode cX7_bursts 106 = .ok (.iload 4, 2) := by decide +kernel
theorem dX7_bursts_108 : decode cX7_bursts 108 = .ok (.iaload, 1) := by decide +kernel
theorem dX7_bursts_109 : decode cX7_bursts 109 = .ok (.iastore, 1) := by decide +kernel
theorem dX7_bursts_110 : decode cX7_bursts 110 = .ok (.iinc 4 1, 3) := by decide +kernel
theorem dX7_bursts_113 : decode cX7_bursts 113 = .ok (.goto (-27), 3) := by decide +kernel
theorem dX7_bursts_116 : decode cX7_bursts 116 = .ok (.aload_n 0, 1) := by decide +kernel
theorem dX7_bursts_117 : decode cX7_bursts 117 = .ok (.getfield 7, 3) := by decide +kernel
theorem dX7_bursts_120 : decode cX7_bursts 120 = .ok (.bipush 74, 2) := by decide +kernel
theorem dX7_bursts_122 : decode cX7_bursts 122 = .ok (.iload_n 1, 1) := by decide +kernel
theorem dX7_bursts_123 : decode cX7_bursts 123 = .ok (.iastore, 1) := by decide +kernel
theorem dX7_bursts_124 : decode cX7_bursts 124 = .ok (.aload_n 0, 1) := by decide +kernel
theorem dX7_bursts_125 : decode cX7_bursts 125 = .ok (.getfield 7, 3) := by decide +kernel
theorem dX7_bursts_128 : decode cX7_bursts 128 = .ok (.bipush 75, 2) := by decide +kernel
theorem dX7_bursts_130 : decode cX7_bursts 130 = .ok (.iload_n 3, 1) := by decide +kernel
theorem dX7_bursts_131 : decode cX7_bursts 131 = .ok (.iastore, 1) := by decide +kernel
theorem dX7_bursts_132 : decode cX7_bursts 132 = .ok (.aload_n 0, 1) := by decide +kernel
theorem dX7_bursts_133 : decode cX7_bursts 133 = .ok (.getfield 7, 3) := by decide +kernel
theorem dX7_bursts_136 : decode cX7_bursts 136 = .ok (.bipush 76, 2) := by decide +kernel
theorem dX7_bursts_138 : decode cX7_bursts 138 = .ok (.iload_n 2, 1) := by decide +kernel
theorem dX7_bursts_139 : decode cX7_bursts 139 = .ok (.iastore, 1) := by decide +kernel
theorem dX7_bursts_140 : decode cX7_bursts 140 = .ok (.aload_n 0, 1) := by decide +kernel
theorem dX7_bursts_141 : decode cX7_bursts 141 = .ok (.getfield 7, 3) := by decide +kernel
theorem dX7_bursts_144 : decode cX7_bursts 144 = .ok (.bipush 36, 2) := by decide +kernel
theorem dX7_bursts_146 : decode cX7_bursts 146 = .ok (.dup2, 1) := by decide +kernel
theorem dX7_bursts_147 : decode cX7_bursts 147 = .ok (.iaload, 1) := by decide +kernel
theorem dX7_bursts_148 : decode cX7_bursts 148 = .ok (.aload_n 0, 1) := by decide +kernel
theorem dX7_bursts_149 : decode cX7_bursts 149 = .ok (.getfield 7, 3) := by decide +kernel
theorem dX7_bursts_152 : decode cX7_bursts 152 = .ok (.bipush 36, 2) := by decide +kernel
theorem dX7_bursts_154 : decode cX7_bursts 154 = .ok (.iaload, 1) := by decide +kernel
theorem dX7_bursts_155 : decode cX7_bursts 155 = .ok (.bipush 6, 2) := by decide +kernel
theorem dX7_bursts_157 : decode cX7_bursts 157 = .ok (.if_icmp .ge 7, 3) := by decide +kernel
theorem dX7_bursts_160 : decode cX7_bursts 160 = .ok (.iconst 1, 1) := by decide +kernel
theorem dX7_bursts_161 : decode cX7_bursts 161 = .ok (.goto 4, 3) := by decide +kernel
theorem dX7_bursts_164 : decode cX7_bursts 164 = .ok (.iconst 0, 1) := by decide +kernel
theorem dX7_bursts_165 : decode cX7_bursts 165 = .ok (.iadd, 1) := by decide +kernel
theorem dX7_bursts_166 : decode cX7_bursts 166 = .ok (.iastore, 1) := by decide +kernel
theorem dX7_bursts_167 : decode cX7_bursts 167 = .ok (.aload_n 0, 1) := by decide +kernel
theorem dX7_bursts_168 : decode cX7_bursts 168 = .ok (.getfield 7, 3) := by decide +kernel
theorem dX7_bursts_171 : decode cX7_bursts 171 = .ok (.bipush 31, 2) := by decide +kernel
theorem dX7_bursts_173 : decode cX7_bursts 173 = .ok (.dup2, 1) := by decide +kernel
theorem dX7_bursts_174 : decode cX7_bursts 174 = .ok (.iaload, 1) := by decide +kernel
theorem dX7_bursts_175 : decode cX7_bursts 175 = .ok (.iconst 1, 1) := by decide +kernel
theorem dX7_bursts_176 : decode cX7_bursts 176 = .ok (.iadd, 1) := by decide +kernel
theorem dX7_bursts_177 : decode cX7_bursts 177 = .ok (.iastore, 1) := by decide +kernel
theorem dX7_bursts_178 : decode cX7_bursts 178 = .ok (.aload_n 0, 1) := by decide +kernel
theorem dX7_bursts_179 : decode cX7_bursts 179 = .ok (.getfield 7, 3) := by decide +kernel
theorem dX7_bursts_182 : decode cX7_bursts 182 = .ok (.bipush 32, 2) := by decide +kernel
theorem dX7_bursts_184 : decode cX7_bursts 184 = .ok (.dup2, 1) := by decide +kernel
theorem dX7_bursts_185 : decode cX7_bursts 185 = .ok (.iaload, 1) := by decide +kernel
theorem dX7_bursts_186 : decode cX7_bursts 186 = .ok (.iload_n 3, 1) := by decide +kernel
theorem dX7_bursts_187 : decode cX7_bursts 187 = .ok (.iadd, 1) := by decide +kernel
theorem dX7_bursts_188 : decode cX7_bursts 188 = .ok (.iastore, 1) := by decide +kernel
theorem dX7_bursts_189 : decode cX7_bursts 189 = .ok (.iload_n 3, 1) := by decide +kernel
theorem dX7_bursts_190 : decode cX7_bursts 190 = .ok (.ireturn, 1) := by decide +kernel
theorem dX7_burst_0 : decode cX7_burst 0 = .ok (.iload_n 1, 1) := by decide +kernel
theorem dX7_burst_1 : decode cX7_burst 1 = .ok (.iconst 0, 1) := by decide +kernel
theorem dX7_burst_2 : decode cX7_burst 2 = .ok (.iconst 2, 1) := by decide +kernel
theorem dX7_burst_3 : decode cX7_burst 3 = .ok (.invokestatic 45, 3) := by decide +kernel
theorem dX7_burst_6 : decode cX7_burst 6 = .ok (.ifCond .ne 6, 3) := by decide +kernel
theorem dX7_burst_9 : decode cX7_burst 9 = .ok (.ldc 106, 2) := by decide +kernel
theorem dX7_burst_11 : decode cX7_burst 11 = .ok (.ireturn, 1) := by decide +kernel
theorem dX7_burst_12 : decode cX7_burst 12 = .ok (.aload_n 0, 1) := by decide +kernel
theorem dX7_burst_13 : decode cX7_burst 13 = .ok (.invokevirtual 107, 3) := by decide +kernel
theorem dX7_burst_16 : decode cX7_burst 16 = .ok (.aload_n 0, 1) := by decide +kernel
theorem dX7_burst_17 : decode cX7_burst 17 = .ok (.iload_n 1, 1) := by decide +kernel
theorem dX7_burst_18 : decode cX7_burst 18 = .ok (.invokevirtual 134, 3) := by decide +kernel
theorem dX7_burst_21 : decode cX7_burst 21 = .ok (.ireturn, 1) := by decide +kernel
theorem dX7_pass_0 : decode cX7_pass 0 = .ok (.iload_n 1, 1) := by decide +kernel
theorem dX7_pass_1 : decode cX7_pass 1 = .ok (.iconst 1, 1) := by decide +kernel
theorem dX7_pass_2 : decode cX7_pass 2 = .ok (.sipush 9999, 3) := by decide +kernel
theorem dX7_pass_5 : decode cX7_pass 5 = .ok (.invokestatic 45, 3) := by decide +kernel
theorem dX7_pass_8 : decode cX7_pass 8 = .ok (.ifCond .ne 6, 3) := by decide +kernel
theorem dX7_pass_11 : decode cX7_pass 11 = .ok (.ldc 106, 2) := by decide +kernel
theorem dX7_pass_13 : decode cX7_pass 13 = .ok (.ireturn, 1) := by decide +kernel
theorem dX7_pass_14 : decode cX7_pass 14 = .ok (.aload_n 0, 1) := by decide +kernel
theorem dX7_pass_15 : decode cX7_pass 15 = .ok (.invokevirtual 107, 3) := by decide +kernel
theorem dX7_pass_18 : decode cX7_pass 18 = .ok (.aload_n 0, 1) := by decide +kernel
theorem dX7_pass_19 : decode cX7_pass 19 = .ok (.iload_n 1, 1) := by decide +kernel
theorem dX7_pass_20 : decode cX7_pass 20 = .ok (.invokevirtual 110, 3) := by decide +kernel
theorem dX7_pass_23 : decode cX7_pass 23 = .ok (.ireturn, 1) := by decide +kernel
theorem dX7_alarm_0 : decode cX7_alarm 0 = .ok (.iload_n 1, 1) := by decide +kernel
theorem dX7_alarm_1 : decode cX7_alarm 1 = .ok (.invokestatic 137, 3) := by decide +kernel
theorem dX7_alarm_4 : decode cX7_alarm 4 = .ok (.ifCond .eq 23, 3) := by decide +kernel
theorem dX7_alarm_7 : decode cX7_alarm 7 = .ok (.iload_n 2, 1) := by decide +kernel
theorem dX7_alarm_8 : decode cX7_alarm 8 = .ok (.iconst 0, 1) := by decide +kernel
theorem dX7_alarm_9 : decode cX7_alarm 9 = .ok (.iconst 4, 1) := by decide +kernel
theorem dX7_alarm_10 : decode cX7_alarm 10 = .ok (.invokestatic 45, 3) := by decide +kernel
theorem dX7_alarm_13 : decode cX7_alarm 13 = .ok (.ifCond .eq 14, 3) := by decide +kernel
theorem dX7_alarm_16 : decode cX7_alarm 16 = .ok (.iload_n 3, 1) := by decide +kernel
theorem dX7_alarm_17 : decode cX7_alarm 17 = .ok (.iconst 0, 1) := by decide +kernel
theorem dX7_alarm_18 : decode cX7_alarm 18 = .ok (.sipush 255, 3) := by decide +kernel
theorem dX7_alarm_21 : decode cX7_alarm 21 = .ok (.invokestatic 45, 3) := by decide +kernel
theorem dX7_alarm_24 : decode cX7_alarm 24 = .ok (.ifCond .ne 6, 3) := by decide +kernel
theorem dX7_alarm_27 : decode cX7_alarm 27 = .ok (.ldc 106, 2) := by decide +kernel
theorem dX7_alarm_29 : decode cX7_alarm 29 = .ok (.ireturn, 1) := by decide +kernel
theorem dX7_alarm_30 : decode cX7_alarm 30 = .ok (.aload_n 0, 1) := by decide +kernel
theorem dX7_alarm_31 : decode cX7_alarm 31 = .ok (.invokevirtual 107, 3) := by decide +kernel
theorem dX7_alarm_34 : decode cX7_alarm 34 = .ok (.aload_n 0, 1) := by decide +kernel
theorem dX7_alarm_35 : decode cX7_alarm 35 = .ok (.getfield 7, 3) := by decide +kernel
theorem dX7_alarm_38 : decode cX7_alarm 38 = .ok (.iload_n 1, 1) := by decide +kernel
theorem dX7_alarm_39 : decode cX7_alarm 39 = .ok (.invokestatic 88, 3) := by decide +kernel
theorem dX7_alarm_42 : decode cX7_alarm 42 = .ok (.iload_n 2, 1) := by decide +kernel
theorem dX7_alarm_43 : decode cX7_alarm 43 = .ok (.iadd, 1) := by decide +kernel
theorem dX7_alarm_44 : decode cX7_alarm 44 = .ok (.iaload, 1) := by decide +kernel
theorem dX7_alarm_45 : decode cX7_alarm 45 = .ok (.istore 4, 2) := by decide +kernel
theorem dX7_alarm_47 : decode cX7_alarm 47 = .ok (.aload_n 0, 1) := by decide +kernel
theorem dX7_alarm_48 : decode cX7_alarm 48 = .ok (.getfield 7, 3) := by decide +kernel
theorem dX7_alarm_51 : decode cX7_alarm 51 = .ok (.iload_n 1, 1) := by decide +kernel
theorem dX7_alarm_52 : decode cX7_alarm 52 = .ok (.invokestatic 88, 3) := by decide +kernel
theorem dX7_alarm_55 : decode cX7_alarm 55 = .ok (.iload_n 2, 1) := by decide +kernel
theorem dX7_alarm_56 : decode cX7_alarm 56 = .ok (.iadd, 1) := by decide +kernel
theorem dX7_alarm_57 : decode cX7_alarm 57 = .ok (.iload_n 3, 1) := by decide +kernel
theorem dX7_alarm_58 : decode cX7_alarm 58 = .ok (.iastore, 1) := by decide +kernel
theorem dX7_alarm_59 : decode cX7_alarm 59 = .ok (.iload 4, 2) := by decide +kernel
theorem dX7_alarm_61 : decode cX7_alarm 61 = .ok (.ireturn, 1) := by decide +kernel
theorem dX7_arm_0 : decode cX7_arm 0 = .ok (.iload_n 1, 1) := by decide +kernel
theorem dX7_arm_1 : decode cX7_arm 1 = .ok (.invokestatic 137, 3) := by decide +kernel
theorem dX7_arm_4 : decode cX7_arm 4 = .ok (.ifCond .eq 13, 3) := by decide +kernel
theorem dX7_arm_7 : decode cX7_arm 7 = .ok (.iload_n 2, 1) := by decide +kernel
theorem dX7_arm_8 : decode cX7_arm 8 = .ok (.iconst (-1), 1) := by decide +kernel
theorem dX7_arm_9 : decode cX7_arm 9 = .ok (.bipush 31, 2) := by decide +kernel
theorem dX7_arm_11 : decode cX7_arm 11 = .ok (.invokestatic 45, 3) := by decide +kernel
theorem dX7_arm_14 : decode cX7_arm 14 = .ok (.ifCond .ne 6, 3) := by decide +kernel
theorem dX7_arm_17 : decode cX7_arm 17 = .ok (.ldc 106, 2) := by decide +kernel
theorem dX7_arm_19 : decode cX7_arm 19 = .ok (.ireturn, 1) := by decide +kernel
theorem dX7_arm_20 : decode cX7_arm 20 = .ok (.aload_n 0, 1) := by decide +kernel
theorem dX7_arm_21 : decode cX7_arm 21 = .ok (.invokevirtual 107, 3) := by decide +kernel
theorem dX7_arm_24 : decode cX7_arm 24 = .ok (.iload_n 1, 1) := by decide +kernel
theorem dX7_arm_25 : decode cX7_arm 25 = .ok (.invokestatic 88, 3) := by decide +kernel
theorem dX7_arm_28 : decode cX7_arm 28 = .ok (.istore_n 3, 1) := by decide +kernel
theorem dX7_arm_29 : decode cX7_arm 29 = .ok (.aload_n 0, 1) := by decide +kernel
theorem dX7_arm_30 : decode cX7_arm 30 = .ok (.getfield 7, 3) := by decide +kernel
theorem dX7_arm_33 : decode cX7_arm 33 = .ok (.iload_n 3, 1) := by decide +kernel
theorem dX7_arm_34 : decode cX7_arm 34 = .ok (.bipush 6, 2) := by decide +kernel
theorem dX7_arm_36 : decode cX7_arm 36 = .ok (.iadd, 1) := by decide +kernel
theorem dX7_arm_37 : decode cX7_arm 37 = .ok (.iaload, 1) := by decide +kernel
theorem dX7_arm_38 : decode cX7_arm 38 = .ok (.istore 4, 2) := by decide +kernel
theorem dX7_arm_40 : decode cX7_arm 40 = .ok (.aload_n 0, 1) := by decide +kernel
theorem dX7_arm_41 : decode cX7_arm 41 = .ok (.getfield 7, 3) := by decide +kernel
theorem dX7_arm_44 : decode cX7_arm 44 = .ok (.iload_n 3, 1) := by decide +kernel
theorem dX7_arm_45 : decode cX7_arm 45 = .ok (.bipush 6, 2) := by decide +kernel
theorem dX7_arm_47 : decode cX7_arm 47 = .ok (.iadd, 1) := by decide +kernel
theorem dX7_arm_48 : decode cX7_arm 48 = .ok (.iload_n 2, 1) := by decide +kernel
theorem dX7_arm_49 : decode cX7_arm 49 = .ok (.ifCond .ge 7, 3) := by decide +kernel
theorem dX7_arm_52 : decode cX7_arm 52 = .ok (.iconst 0, 1) := by decide +kernel
theorem dX7_arm_53 : decode cX7_arm 53 = .ok (.goto 4, 3) := by decide +kernel
theorem dX7_arm_56 : decode cX7_arm 56 = .ok (.iconst 1, 1) := by decide +kernel
theorem dX7_arm_57 : decode cX7_arm 57 = .ok (.iastore, 1) := by decide +kernel
theorem dX7_arm_58 : decode cX7_arm 58 = .ok (.aload_n 0, 1) := by decide +kernel
theorem dX7_arm_59 : decode cX7_arm 59 = .ok (.getfield 7, 3) := by decide +kernel
theorem dX7_arm_62 : decode cX7_arm 62 = .ok (.iload_n 3, 1) := by decide +kernel
theorem dX7_arm_63 : decode cX7_arm 63 = .ok (.iconst 5, 1) := by decide +kernel
theorem dX7_arm_64 : decode cX7_arm 64 = .ok (.iadd, 1) := by decide +kernel
theorem dX7_arm_65 : decode cX7_arm 65 = .ok (.iload_n 2, 1) := by decide +kernel
theorem dX7_arm_66 : decode cX7_arm 66 = .ok (.ifCond .ge 14, 3) := by decide +kernel
theorem dX7_arm_69 : decode cX7_arm 69 = .ok (.aload_n 0, 1) := by decide +kernel
theorem dX7_arm_70 : decode cX7_arm 70 = .ok (.getfield 7, 3) := by decide +kernel
theorem dX7_arm_73 : decode cX7_arm 73 = .ok (.iload_n 3, 1) := by decide +kernel
theorem dX7_arm_74 : decode cX7_arm 74 = .ok (.iconst 5, 1) := by decide +kernel
theorem dX7_arm_75 : decode cX7_arm 75 = .ok (.iadd, 1) := by decide +kernel
theorem dX7_arm_76 : decode cX7_arm 76 = .ok (.iaload, 1) := by decide +kernel
theorem dX7_arm_77 : decode cX7_arm 77 = .ok (.goto 4, 3) := by decide +kernel
theorem dX7_arm_80 : decode cX7_arm 80 = .ok (.iload_n 2, 1) := by decide +kernel
theorem dX7_arm_81 : decode cX7_arm 81 = .ok (.iastore, 1) := by decide +kernel
theorem dX7_arm_82 : decode cX7_arm 82 = .ok (.iload 4, 2) := by decide +kernel
theorem dX7_arm_84 : decode cX7_arm 84 = .ok (.ireturn, 1) := by decide +kernel
theorem dX7_flags_0 : decode cX7_flags 0 = .ok (.iconst 0, 1) := by decide +kernel
theorem dX7_flags_1 : decode cX7_flags 1 = .ok (.istore_n 1, 1) := by decide +kernel
theorem dX7_flags_2 : decode cX7_flags 2 = .ok (.iconst 0, 1) := by decide +kernel
theorem dX7_flags_3 : decode cX7_flags 3 = .ok (.istore_n 2, 1) := by decide +kernel
theorem dX7_flags_4 : decode cX7_flags 4 = .ok (.iload_n 2, 1) := by decide +kernel
theorem dX7_flags_5 : decode cX7_flags 5 = .ok (.iconst 3, 1) := by decide +kernel
theorem dX7_flags_6 : decode cX7_flags 6 = .ok (.if_icmp .ge 26, 3) := by decide +kernel
theorem dX7_flags_9 : decode cX7_flags 9 = .ok (.iload_n 1, 1) := by decide +kernel
theorem dX7_flags_10 : decode cX7_flags 10 = .ok (.aload_n 0, 1) := by decide +kernel
theorem dX7_flags_11 : decode cX7_flags 11 = .ok (.getfield 7, 3) := by decide +kernel
theorem dX7_flags_14 : decode cX7_flags 14 = .ok (.iload_n 2, 1) := by decide +kernel
theorem dX7_flags_15 : decode cX7_flags 15 = .ok (.invokestatic 88, 3) := by decide +kernel
theorem dX7_flags_18 : decode cX7_flags 18 = .ok (.bipush 7, 2) := by decide +kernel
theorem dX7_flags_20 : decode cX7_flags 20 = .ok (.iadd, 1) := by decide +kernel
theorem dX7_flags_21 : decode cX7_flags 21 = .ok (.iaload, 1) := by decide +kernel
theorem dX7_flags_22 : decode cX7_flags 22 = .ok (.iload_n 2, 1) := by decide +kernel
theorem dX7_flags_23 : decode cX7_flags 23 = .ok (.ishl, 1) := by decide +kernel
theorem dX7_flags_24 : decode cX7_flags 24 = .ok (.ior, 1) := by decide +kernel
theorem dX7_flags_25 : decode cX7_flags 25 = .ok (.istore_n 1, 1) := by decide +kernel
theorem dX7_flags_26 : decode cX7_flags 26 = .ok (.iinc 2 1, 3) := by decide +kernel
theorem dX7_flags_29 : decode cX7_flags 29 = .ok (.goto (-25), 3) := by decide +kernel
theorem dX7_flags_32 : decode cX7_flags 32 = .ok (.iload_n 1, 1) := by decide +kernel
theorem dX7_flags_33 : decode cX7_flags 33 = .ok (.ireturn, 1) := by decide +kernel
theorem dX7_clear_0 : decode cX7_clear 0 = .ok (.aload_n 0, 1) := by decide +kernel
theorem dX7_clear_1 : decode cX7_clear 1 = .ok (.invokevirtual 107, 3) := by decide +kernel
theorem dX7_clear_4 : decode cX7_clear 4 = .ok (.aload_n 0, 1) := by decide +kernel
theorem dX7_clear_5 : decode cX7_clear 5 = .ok (.invokevirtual 140, 3) := by decide +kernel
theorem dX7_clear_8 : decode cX7_clear 8 = .ok (.istore_n 1, 1) := by decide +kernel
theorem dX7_clear_9 : decode cX7_clear 9 = .ok (.iconst 0, 1) := by decide +kernel
theorem dX7_clear_10 : decode cX7_clear 10 = .ok (.istore_n 2, 1) := by decide +kernel
theorem dX7_clear_11 : decode cX7_clear 11 = .ok (.iload_n 2, 1) := by decide +kernel
theorem dX7_clear_12 : decode cX7_clear 12 = .ok (.iconst 3, 1) := by decide +kernel
theorem dX7_clear_13 : decode cX7_clear 13 = .ok (.if_icmp .ge 22, 3) := by decide +kernel
theorem dX7_clear_16 : decode cX7_clear 16 = .ok (.aload_n 0, 1) := by decide +kernel
theorem dX7_clear_17 : decode cX7_clear 17 = .ok (.getfield 7, 3) := by decide +kernel
theorem dX7_clear_20 : decode cX7_clear 20 = .ok (.iload_n 2, 1) := by decide +kernel
theorem dX7_clear_21 : decode cX7_clear 21 = .ok (.invokestatic 88, 3) := by decide +kernel
theorem dX7_clear_24 : decode cX7_clear 24 = .ok (.bipush 7, 2) := by decide +kernel
theorem dX7_clear_26 : decode cX7_clear 26 = .ok (.iadd, 1) := by decide +kernel
theorem dX7_clear_27 : decode cX7_clear 27 = .ok (.iconst 0, 1) := by decide +kernel
theorem dX7_clear_28 : decode cX7_clear 28 = .ok (.iastore, 1) := by decide +kernel
theorem dX7_clear_29 : decode cX7_clear 29 = .ok (.iinc 2 1, 3) := by decide +kernel
theorem dX7_clear_32 : decode cX7_clear 32 = .ok (.goto (-21), 3) := by decide +kernel
theorem dX7_clear_35 : decode cX7_clear 35 = .ok (.iload_n 1, 1) := by decide +kernel
theorem dX7_clear_36 : decode cX7_clear 36 = .ok (.ireturn, 1) := by decide +kernel
theorem dX7_bits_0 : decode cX7_bits 0 = .ok (.iconst 0, 1) := by decide +kernel
theorem dX7_bits_1 : decode cX7_bits 1 = .ok (.istore_n 1, 1) := by decide +kernel
theorem dX7_bits_2 : decode cX7_bits 2 = .ok (.iload_n 0, 1) := by decide +kernel
theorem dX7_bits_3 : decode cX7_bits 3 = .ok (.istore_n 2, 1) := by decide +kernel
theorem dX7_bits_4 : decode cX7_bits 4 = .ok (.iload_n 2, 1) := by decide +kernel
theorem dX7_bits_5 : decode cX7_bits 5 = .ok (.ifCond .le 16, 3) := by decide +kernel
theorem dX7_bits_8 : decode cX7_bits 8 = .ok (.iload_n 1, 1) := by decide +kernel
theorem dX7_bits_9 : decode cX7_bits 9 = .ok (.iload_n 2, 1) := by decide +kernel
theorem dX7_bits_10 : decode cX7_bits 10 = .ok (.iconst 2, 1) := by decide +kernel
theorem dX7_bits_11 : decode cX7_bits 11 = .ok (.irem, 1) := by decide +kernel
theorem dX7_bits_12 : decode cX7_bits 12 = .ok (.iadd, 1) := by decide +kernel
theorem dX7_bits_13 : decode cX7_bits 13 = .ok (.istore_n 1, 1) := by decide +kernel
theorem dX7_bits_14 : decode cX7_bits 14 = .ok (.iload_n 2, 1) := by decide +kernel
theorem dX7_bits_15 : decode cX7_bits 15 = .ok (.iconst 2, 1) := by decide +kernel
theorem dX7_bits_16 : decode cX7_bits 16 = .ok (.idiv, 1) := by decide +kernel
theorem dX7_bits_17 : decode cX7_bits 17 = .ok (.istore_n 2, 1) := by decide +kernel
theorem dX7_bits_18 : decode cX7_bits 18 = .ok (.goto (-14), 3) := by decide +kernel
theorem dX7_bits_21 : decode cX7_bits 21 = .ok (.iload_n 1, 1) := by decide +kernel
theorem dX7_bits_22 : decode cX7_bits 22 = .ok (.ireturn, 1) := by decide +kernel
theorem dX7_failed_0 : decode cX7_failed 0 = .ok (.iconst 0, 1) := by decide +kernel
theorem dX7_failed_1 : decode cX7_failed 1 = .ok (.istore_n 1, 1) := by decide +kernel
theorem dX7_failed_2 : decode cX7_failed 2 = .ok (.iconst 0, 1) := by decide +kernel
theorem dX7_failed_3 : decode cX7_failed 3 = .ok (.istore_n 2, 1) := by decide +kernel
theorem dX7_failed_4 : decode cX7_failed 4 = .ok (.iload_n 2, 1) := by decide +kernel
theorem dX7_failed_5 : decode cX7_failed 5 = .ok (.bipush 7, 2) := by decide +kernel
theorem dX7_failed_7 : decode cX7_failed 7 = .ok (.if_icmp .ge 24, 3) := by decide +kernel
theorem dX7_failed_10 : decode cX7_failed 10 = .ok (.iload_n 1, 1) := by decide +kernel
theorem dX7_failed_11 : decode cX7_failed 11 = .ok (.aload_n 0, 1) := by decide +kernel
theorem dX7_failed_12 : decode cX7_failed 12 = .ok (.getfield 7, 3) := by decide +kernel
theorem dX7_failed_15 : decode cX7_failed 15 = .ok (.bipush 7, 2) := by decide +kernel
theorem dX7_failed_17 : decode cX7_failed 17 = .ok (.iload_n 2, 1) := by decide +kernel
theorem dX7_failed_18 : decode cX7_failed 18 = .ok (.iadd, 1) := by decide +kernel
theorem dX7_failed_19 : decode cX7_failed 19 = .ok (.iaload, 1) := by decide +kernel
theorem dX7_failed_20 : decode cX7_failed 20 = .ok (.invokestatic 143, 3) := by decide +kernel
theorem dX7_failed_23 : decode cX7_failed 23 = .ok (.iadd, 1) := by decide +kernel
theorem dX7_failed_24 : decode cX7_failed 24 = .ok (.istore_n 1, 1) := by decide +kernel
theorem dX7_failed_25 : decode cX7_failed 25 = .ok (.iinc 2 1, 3) := by decide +kernel
theorem dX7_failed_28 : decode cX7_failed 28 = .ok (.goto (-24), 3) := by decide +kernel
theorem dX7_failed_31 : decode cX7_failed 31 = .ok (.iload_n 1, 1) := by decide +kernel
theorem dX7_failed_32 : decode cX7_failed 32 = .ok (.ireturn, 1) := by decide +kernel
theorem dX7_fail_0 : decode cX7_fail 0 = .ok (.iload_n 1, 1) := by decide +kernel
theorem dX7_fail_1 : decode cX7_fail 1 = .ok (.invokestatic 103, 3) := by decide +kernel
theorem dX7_fail_4 : decode cX7_fail 4 = .ok (.ifCond .eq 22, 3) := by decide +kernel
theorem dX7_fail_7 : decode cX7_fail 7 = .ok (.iload_n 2, 1) := by decide +kernel
theorem dX7_fail_8 : decode cX7_fail 8 = .ok (.iconst 0, 1) := by decide +kernel
theorem dX7_fail_9 : decode cX7_fail 9 = .ok (.bipush 7, 2) := by decide +kernel
theorem dX7_fail_11 : decode cX7_fail 11 = .ok (.invokestatic 45, 3) := by decide +kernel
theorem dX7_fail_14 : decode cX7_fail 14 = .ok (.ifCond .eq 12, 3) := by decide +kernel
theorem dX7_fail_17 : decode cX7_fail 17 = .ok (.iload_n 3, 1) := by decide +kernel
theorem dX7_fail_18 : decode cX7_fail 18 = .ok (.iconst 0, 1) := by decide +kernel
theorem dX7_fail_19 : decode cX7_fail 19 = .ok (.iconst 1, 1) := by decide +kernel
theorem dX7_fail_20 : decode cX7_fail 20 = .ok (.invokestatic 45, 3) := by decide +kernel
theorem dX7_fail_23 : decode cX7_fail 23 = .ok (.ifCond .ne 6, 3) := by decide +kernel
theorem dX7_fail_26 : decode cX7_fail 26 = .ok (.ldc 106, 2) := by decide +kernel
theorem dX7_fail_28 : decode cX7_fail 28 = .ok (.ireturn, 1) := by decide +kernel
theorem dX7_fail_29 : decode cX7_fail 29 = .ok (.aload_n 0, 1) := by decide +kernel
theorem dX7_fail_30 : decode cX7_fail 30 = .ok (.getfield 7, 3) := by decide +kernel
theorem dX7_fail_33 : decode cX7_fail 33 = .ok (.bipush 7, 2) := by decide +kernel
theorem dX7_fail_35 : decode cX7_fail 35 = .ok (.iload_n 1, 1) := by decide +kernel
theorem dX7_fail_36 : decode cX7_fail 36 = .ok (.iadd, 1) := by decide +kernel
theorem dX7_fail_37 : decode cX7_fail 37 = .ok (.iaload, 1) := by decide +kernel
theorem dX7_fail_38 : decode cX7_fail 38 = .ok (.iload_n 2, 1) := by decide +kernel
theorem dX7_fail_39 : decode cX7_fail 39 = .ok (.ishr, 1) := by decide +kernel
theorem dX7_fail_40 : decode cX7_fail 40 = .ok (.iconst 1, 1) := by decide +kernel
theorem dX7_fail_41 : decode cX7_fail 41 = .ok (.iand, 1) := by decide +kernel
theorem dX7_fail_42 : decode cX7_fail 42 = .ok (.iconst 1, 1) := by decide +kernel
theorem dX7_fail_43 : decode cX7_fail 43 = .ok (.if_icmp .ne 6, 3) := by decide +kernel
theorem dX7_fail_46 : decode cX7_fail 46 = .ok (.ldc 146, 2) := by decide +kernel
theorem dX7_fail_48 : decode cX7_fail 48 = .ok (.ireturn, 1) := by decide +kernel
theorem dX7_fail_49 : decode cX7_fail 49 = .ok (.aload_n 0, 1) := by decide +kernel
theorem dX7_fail_50 : decode cX7_fail 50 = .ok (.invokevirtual 107, 3) := by decide +kernel
theorem dX7_fail_53 : decode cX7_fail 53 = .ok (.aload_n 0, 1) := by decide +kernel
theorem dX7_fail_54 : decode cX7_fail 54 = .ok (.getfield 7, 3) := by decide +kernel
theorem dX7_fail_57 : decode cX7_fail 57 = .ok (.bipush 7, 2) := by decide +kernel
theorem dX7_fail_59 : decode cX7_fail 59 = .ok (.iload_n 1, 1) := by decide +kernel
theorem dX7_fail_60 : decode cX7_fail 60 = .ok (.iadd, 1) := by decide +kernel
theorem dX7_fail_61 : decode cX7_fail 61 = .ok (.dup2, 1) := by decide +kernel
theorem dX7_fail_62 : decode cX7_fail 62 = .ok (.iaload, 1) := by decide +kernel
theorem dX7_fail_63 : decode cX7_fail 63 = .ok (.iconst 1, 1) := by decide +kernel
theorem dX7_fail_64 : decode cX7_fail 64 = .ok (.iload_n 2, 1) := by decide +kernel
theorem dX7_fail_65 : decode cX7_fail 65 = .ok (.ishl, 1) := by decide +kernel
theorem dX7_fail_66 : decode cX7_fail 66 = .ok (.iadd, 1) := by decide +kernel
theorem dX7_fail_67 : decode cX7_fail 67 = .ok (.iastore, 1) := by decide +kernel
theorem dX7_fail_68 : decode cX7_fail 68 = .ok (.aload_n 0, 1) := by decide +kernel
theorem dX7_fail_69 : decode cX7_fail 69 = .ok (.getfield 7, 3) := by decide +kernel
theorem dX7_fail_72 : decode cX7_fail 72 = .ok (.bipush 14, 2) := by decide +kernel
theorem dX7_fail_74 : decode cX7_fail 74 = .ok (.iload_n 1, 1) := by decide +kernel
theorem dX7_fail_75 : decode cX7_fail 75 = .ok (.iadd, 1) := by decide +kernel
theorem dX7_fail_76 : decode cX7_fail 76 = .ok (.aload_n 0, 1) := by decide +kernel
theorem dX7_fail_77 : decode cX7_fail 77 = .ok (.getfield 7, 3) := by decide +kernel
theorem dX7_fail_80 : decode cX7_fail 80 = .ok (.bipush 14, 2) := by decide +kernel
theorem dX7_fail_82 : decode cX7_fail 82 = .ok (.iload_n 1, 1) := by decide +kernel
theorem dX7_fail_83 : decode cX7_fail 83 = .ok (.iadd, 1) := by decide +kernel
theorem dX7_fail_84 : decode cX7_fail 84 = .ok (.iaload, 1) := by decide +kernel
theorem dX7_fail_85 : decode cX7_fail 85 = .ok (.sipush 255, 3) := by decide +kernel
theorem dX7_fail_88 : decode cX7_fail 88 = .ok (.iconst 1, 1) := by decide +kernel
theorem dX7_fail_89 : decode cX7_fail 89 = .ok (.iload_n 2, 1) := by decide +kernel
theorem dX7_fail_90 : decode cX7_fail 90 = .ok (.ishl, 1) := by decide +kernel
theorem dX7_fail_91 : decode cX7_fail 91 = .ok (.isub, 1) := by decide +kernel
theorem dX7_fail_92 : decode cX7_fail 92 = .ok (.iand, 1) := by decide +kernel
theorem dX7_fail_93 : decode cX7_fail 93 = .ok (.iload_n 3, 1) := by decide +kernel
theorem dX7_fail_94 : decode cX7_fail 94 = .ok (.iload_n 2, 1) := by decide +kernel
theorem dX7_fail_95 : decode cX7_fail 95 = .ok (.ishl, 1) := by decide +kernel
theorem dX7_fail_96 : decode cX7_fail 96 = .ok (.ior, 1) := by decide +kernel
theorem dX7_fail_97 : decode cX7_fail 97 = .ok (.iastore, 1) := by decide +kernel
theorem dX7_fail_98 : decode cX7_fail 98 = .ok (.aload_n 0, 1) := by decide +kernel
theorem dX7_fail_99 : decode cX7_fail 99 = .ok (.iload_n 1, 1) := by decide +kernel
theorem dX7_fail_100 : decode cX7_fail 100 = .ok (.aload_n 0, 1) := by decide +kernel
theorem dX7_fail_101 : decode cX7_fail 101 = .ok (.getfield 7, 3) := by decide +kernel
theorem dX7_fail_104 : decode cX7_fail 104 = .ok (.iconst 0, 1) := by decide +kernel
theorem dX7_fail_105 : decode cX7_fail 105 = .ok (.iload_n 1, 1) := by decide +kernel
theorem dX7_fail_106 : decode cX7_fail 106 = .ok (.iadd, 1) := by decide +kernel
theorem dX7_fail_107 : decode cX7_fail 107 = .ok (.iaload, 1) := by decide +kernel
theorem dX7_fail_108 : decode cX7_fail 108 = .ok (.invokevirtual 84, 3) := by decide +kernel
theorem dX7_fail_111 : decode cX7_fail 111 = .ok (.aload_n 0, 1) := by decide +kernel
theorem dX7_fail_112 : decode cX7_fail 112 = .ok (.getfield 7, 3) := by decide +kernel
theorem dX7_fail_115 : decode cX7_fail 115 = .ok (.iconst 0, 1) := by decide +kernel
theorem dX7_fail_116 : decode cX7_fail 116 = .ok (.iload_n 1, 1) := by decide +kernel
theorem dX7_fail_117 : decode cX7_fail 117 = .ok (.iadd, 1) := by decide +kernel
theorem dX7_fail_118 : decode cX7_fail 118 = .ok (.iaload, 1) := by decide +kernel
theorem dX7_fail_119 : decode cX7_fail 119 = .ok (.ireturn, 1) := by decide +kernel
theorem dX7_heal_0 : decode cX7_heal 0 = .ok (.iload_n 1, 1) := by decide +kernel
theorem dX7_heal_1 : decode cX7_heal 1 = .ok (.invokestatic 103, 3) := by decide +kernel
theorem dX7_heal_4 : decode cX7_heal 4 = .ok (.ifCond .eq 13, 3) := by decide +kernel
theorem dX7_heal_7 : decode cX7_heal 7 = .ok (.iload_n 2, 1) := by decide +kernel
theorem dX7_heal_8 : decode cX7_heal 8 = .ok (.iconst 0, 1) := by decide +kernel
theorem dX7_heal_9 : decode cX7_heal 9 = .ok (.bipush 7, 2) := by decide +kernel
theorem dX7_heal_11 : decode cX7_heal 11 = .ok (.invokestatic 45, 3) := by decide +kernel
theorem dX7_heal_14 : decode cX7_heal 14 = .ok (.ifCond .ne 6, 3) := by decide +kernel
theorem dX7_heal_17 : decode cX7_heal 17 = .ok (.ldc 106, 2) := by decide +kernel
theorem dX7_heal_19 : decode cX7_heal 19 = .ok (.ireturn, 1) := by decide +kernel
theorem dX7_heal_20 : decode cX7_heal 20 = .ok (.aload_n 0, 1) := by decide +kernel
theorem dX7_heal_21 : decode cX7_heal 21 = .ok (.getfield 7, 3) := by decide +kernel
theorem dX7_heal_24 : decode cX7_heal 24 = .ok (.bipush 7, 2) := by decide +kernel
theorem dX7_heal_26 : decode cX7_heal 26 = .ok (.iload_n 1, 1) := by decide +kernel
theorem dX7_heal_27 : decode cX7_heal 27 = .ok (.iadd, 1) := by decide +kernel
theorem dX7_heal_28 : decode cX7_heal 28 = .ok (.iaload, 1) := by decide +kernel
theorem dX7_heal_29 : decode cX7_heal 29 = .ok (.iload_n 2, 1) := by decide +kernel
theorem dX7_heal_30 : decode cX7_heal 30 = .ok (.ishr, 1) := by decide +kernel
theorem dX7_heal_31 : decode cX7_heal 31 = .ok (.iconst 1, 1) := by decide +kernel
theorem dX7_heal_32 : decode cX7_heal 32 = .ok (.iand, 1) := by decide +kernel
theorem dX7_heal_33 : decode cX7_heal 33 = .ok (.ifCond .ne 6, 3) := by decide +kernel
theorem dX7_heal_36 : decode cX7_heal 36 = .ok (.ldc 146, 2) := by decide +kernel
theorem dX7_heal_38 : decode cX7_heal 38 = .ok (.ireturn, 1) := by decide +kernel
theorem dX7_heal_39 : decode cX7_heal 39 = .ok (.aload_n 0, 1) := by decide +kernel
theorem dX7_heal_40 : decode cX7_heal 40 = .ok (.invokevirtual 107, 3) := by decide +kernel
theorem dX7_heal_43 : decode cX7_heal 43 = .ok (.aload_n 0, 1) := by decide +kernel
theorem dX7_heal_44 : decode cX7_heal 44 = .ok (.getfield 7, 3) := by decide +kernel
theorem dX7_heal_47 : decode cX7_heal 47 = .ok (.bipush 7, 2) := by decide +kernel
theorem dX7_heal_49 : decode cX7_heal 49 = .ok (.iload_n 1, 1) := by decide +kernel
theorem dX7_heal_50 : decode cX7_heal 50 = .ok (.iadd, 1) := by decide +kernel
theorem dX7_heal_51 : decode cX7_heal 51 = .ok (.dup2, 1) := by decide +kernel
theorem dX7_heal_52 : decode cX7_heal 52 = .ok (.iaload, 1) := by decide +kernel
theorem dX7_heal_53 : decode cX7_heal 53 = .ok (.iconst 1, 1) := by decide +kernel
theorem dX7_heal_54 : decode cX7_heal 54 = .ok (.iload_n 2, 1) := by decide +kernel
theorem dX7_heal_55 : decode cX7_heal 55 = .ok (.ishl, 1) := by decide +kernel
theorem dX7_heal_56 : decode cX7_heal 56 = .ok (.isub, 1) := by decide +kernel
theorem dX7_heal_57 : decode cX7_heal 57 = .ok (.iastore, 1) := by decide +kernel
theorem dX7_heal_58 : decode cX7_heal 58 = .ok (.aload_n 0, 1) := by decide +kernel
theorem dX7_heal_59 : decode cX7_heal 59 = .ok (.invokevirtual 147, 3) := by decide +kernel
theorem dX7_heal_62 : decode cX7_heal 62 = .ok (.ireturn, 1) := by decide +kernel
theorem dX7_set_0 : decode cX7_set 0 = .ok (.iload_n 1, 1) := by decide +kernel
theorem dX7_set_1 : decode cX7_set 1 = .ok (.iconst 0, 1) := by decide +kernel
theorem dX7_set_2 : decode cX7_set 2 = .ok (.iconst 2, 1) := by decide +kernel
theorem dX7_set_3 : decode cX7_set 3 = .ok (.invokestatic 45, 3) := by decide +kernel
theorem dX7_set_6 : decode cX7_set 6 = .ok (.ifCond .eq 40, 3) := by decide +kernel
theorem dX7_set_9 : decode cX7_set 9 = .ok (.iload_n 2, 1) := by decide +kernel
theorem dX7_set_10 : decode cX7_set 10 = .ok (.iload_n 1, 1) := by decide +kernel
theorem dX7_set_11 : decode cX7_set 11 = .ok (.iconst 2, 1) := by decide +kernel
theorem dX7_set_12 : decode cX7_set 12 = .ok (.if_icmp .ne 7, 3) := by decide +kernel
theorem dX7_set_15 : decode cX7_set 15 = .ok (.iconst 4, 1) := by decide +kernel
theorem dX7_set_16 : decode cX7_set 16 = .ok (.goto 4, 3) := by decide +kernel
theorem dX7_set_19 : decode cX7_set 19 = .ok (.iconst 0, 1) := by decide +kernel
theorem dX7_set_20 : decode cX7_set 20 = .ok (.iload_n 1, 1) := by decide +kernel
theorem dX7_set_21 : decode cX7_set 21 = .ok (.ifCond .ne 8, 3) := by decide +kernel
theorem dX7_set_24 : decode cX7_set 24 = .ok (.bipush 8, 2) := by decide +kernel
theorem dX7_set_26 : decode cX7_set 26 = .ok (.goto 14, 3) := by decide +kernel
theorem dX7_set_29 : decode cX7_set 29 = .ok (.iload_n 1, 1) := by decide +kernel
theorem dX7_set_30 : decode cX7_set 30 = .ok (.iconst 1, 1) := by decide +kernel
theorem dX7_set_31 : decode cX7_set 31 = .ok (.if_icmp .ne 7, 3) := by decide +kernel
theorem dX7_set_34 : decode cX7_set 34 = .ok (.iconst 1, 1) := by decide +kernel
theorem dX7_set_35 : decode cX7_set 35 = .ok (.goto 5, 3) := by decide +kernel
theorem dX7_set_38 : decode cX7_set 38 = .ok (.bipush 60, 2) := by decide +kernel
theorem dX7_set_40 : decode cX7_set 40 = .ok (.invokestatic 45, 3) := by decide +kernel
theorem dX7_set_43 : decode cX7_set 43 = .ok (.ifCond .ne 6, 3) := by decide +kernel
theorem dX7_set_46 : decode cX7_set 46 = .ok (.ldc 106, 2) := by decide +kernel
theorem dX7_set_48 : decode cX7_set 48 = .ok (.ireturn, 1) := by decide +kernel
theorem dX7_set_49 : decode cX7_set 49 = .ok (.aload_n 0, 1) := by decide +kernel
theorem dX7_set_50 : decode cX7_set 50 = .ok (.invokevirtual 107, 3) := by decide +kernel
theorem dX7_set_53 : decode cX7_set 53 = .ok (.aload_n 0, 1) := by decide +kernel
theorem dX7_set_54 : decode cX7_set 54 = .ok (.getfield 7, 3) := by decide +kernel
theorem dX7_set_57 : decode cX7_set 57 = .ok (.bipush 37, 2) := by decide +kernel
theorem dX7_set_59 : decode cX7_set 59 = .ok (.iload_n 1, 1) := by decide +kernel
theorem dX7_set_60 : decode cX7_set 60 = .ok (.iadd, 1) := by decide +kernel
theorem dX7_set_61 : decode cX7_set 61 = .ok (.iaload, 1) := by decide +kernel
theorem dX7_set_62 : decode cX7_set 62 = .ok (.istore_n 3, 1) := by decide +kernel
theorem dX7_set_63 : decode cX7_set 63 = .ok (.aload_n 0, 1) := by decide +kernel
theorem dX7_set_64 : decode cX7_set 64 = .ok (.getfield 7, 3) := by decide +kernel
theorem dX7_set_67 : decode cX7_set 67 = .ok (.bipush 37, 2) := by decide +kernel
theorem dX7_set_69 : decode cX7_set 69 = .ok (.iload_n 1, 1) := by decide +kernel
theorem dX7_set_70 : decode cX7_set 70 = .ok (.iadd, 1) := by decide +kernel
theorem dX7_set_71 : decode cX7_set 71 = .ok (.iload_n 2, 1) := by decide +kernel
theorem dX7_set_72 : decode cX7_set 72 = .ok (.iastore, 1) := by decide +kernel
theorem dX7_set_73 : decode cX7_set 73 = .ok (.aload_n 0, 1) := by decide +kernel
theorem dX7_set_74 : decode cX7_set 74 = .ok (.getfield 7, 3) := by decide +kernel
theorem dX7_set_77 : decode cX7_set 77 = .ok (.bipush 28, 2) := by decide +kernel
theorem dX7_set_79 : decode cX7_set 79 = .ok (.aload_n 0, 1) := by decide +kernel
theorem dX7_set_80 : decode cX7_set 80 = .ok (.getfield 7, 3) := by decide +kernel
theorem dX7_set_83 : decode cX7_set 83 = .ok (.bipush 28, 2) := by decide +kernel
theorem dX7_set_85 : decode cX7_set 85 = .ok (.iaload, 1) := by decide +kernel
theorem dX7_set_86 : decode cX7_set 86 = .ok (.aload_n 0, 1) := by decide +kernel
theorem dX7_set_87 : decode cX7_set 87 = .ok (.getfield 7, 3) := by decide +kernel
theorem dX7_set_90 : decode cX7_set 90 = .ok (.bipush 39, 2) := by decide +kernel
theorem dX7_set_92 : decode cX7_set 92 = .ok (.iaload, 1) := by decide +kernel
theorem dX7_set_93 : decode cX7_set 93 = .ok (.if_icmp .ge 13, 3) := by decide +kernel
theorem dX7_set_96 : decode cX7_set 96 = .ok (.aload_n 0, 1) := by decide +kernel
theorem dX7_set_97 : decode cX7_set 97 = .ok (.getfield 7, 3) := by decide +kernel
theorem dX7_set_100 : decode cX7_set 100 = .ok (.bipush 28, 2) := by decide +kernel
theorem dX7_set_102 : decode cX7_set 102 = .ok (.iaload, 1) := by decide +kernel
theorem dX7_set_103 : decode cX7_set 103 = .ok (.goto 12, 3) := by decide +kernel
theorem dX7_set_106 : decode cX7_set 106 = .ok (.aload_n 0, 1) := by decide +kernel
theorem dX7_set_107 : decode cX7_set 107 = .ok (.getfield 7, 3) := by decide +kernel
theorem dX7_set_110 : decode cX7_set 110 = .ok (.bipush 39, 2) := by decide +kernel
theorem dX7_set_112 : decode cX7_set 112 = .ok (.iaload, 1) := by decide +kernel
theorem dX7_set_113 : decode cX7_set 113 = .ok (.iconst 1, 1) := by decide +kernel
theorem dX7_set_114 : decode cX7_set 114 = .ok (.isub, 1) := by decide +kernel
theorem dX7_set_115 : decode cX7_set 115 = .ok (.iastore, 1) := by decide +kernel
theorem dX7_set_116 : decode cX7_set 116 = .ok (.iload_n 3, 1) := by decide +kernel
theorem dX7_set_117 : decode cX7_set 117 = .ok (.ireturn, 1) := by decide +kernel
theorem dX7_wouldStep_0 : decode cX7_wouldStep 0 = .ok (.aload_n 0, 1) := by decide +kernel
theorem dX7_wouldStep_1 : decode cX7_wouldStep 1 = .ok (.getfield 7, 3) := by decide +kernel
theorem dX7_wouldStep_4 : decode cX7_wouldStep 4 = .ok (.bipush 7, 2) := by decide +kernel
theorem dX7_wouldStep_6 : decode cX7_wouldStep 6 = .ok (.iload_n 1, 1) := by decide +kernel
theorem dX7_wouldStep_7 : decode cX7_wouldStep 7 = .ok (.iadd, 1) := by decide +kernel
theorem dX7_wouldStep_8 : decode cX7_wouldStep 8 = .ok (.iaload, 1) := by decide +kernel
theorem dX7_wouldStep_9 : decode cX7_wouldStep 9 = .ok (.istore_n 2, 1) := by decide +kernel
theorem dX7_wouldStep_10 : decode cX7_wouldStep 10 = .ok (.aload_n 0, 1) := by decide +kernel
theorem dX7_wouldStep_11 : decode cX7_wouldStep 11 = .ok (.iload_n 1, 1) := by decide +kernel
theorem dX7_wouldStep_12 : decode cX7_wouldStep 12 = .ok (.invokevirtual 81, 3) := by decide +kernel
theorem dX7_wouldStep_15 : decode cX7_wouldStep 15 = .ok (.sipush 255, 3) := by decide +kernel
theorem dX7_wouldStep_18 : decode cX7_wouldStep 18 = .ok (.iload_n 2, 1) := by decide +kernel
theorem dX7_wouldStep_19 : decode cX7_wouldStep 19 = .ok (.isub, 1) := by decide +kernel
theorem dX7_wouldStep_20 : decode cX7_wouldStep 20 = .ok (.iand, 1) := by decide +kernel
theorem dX7_wouldStep_21 : decode cX7_wouldStep 21 = .ok (.aload_n 0, 1) := by decide +kernel
theorem dX7_wouldStep_22 : decode cX7_wouldStep 22 = .ok (.getfield 7, 3) := by decide +kernel
theorem dX7_wouldStep_25 : decode cX7_wouldStep 25 = .ok (.bipush 14, 2) := by decide +kernel
theorem dX7_wouldStep_27 : decode cX7_wouldStep 27 = .ok (.iload_n 1, 1) := by decide +kernel
theorem dX7_wouldStep_28 : decode cX7_wouldStep 28 = .ok (.iadd, 1) := by decide +kernel
theorem dX7_wouldStep_29 : decode cX7_wouldStep 29 = .ok (.iaload, 1) := by decide +kernel
theorem dX7_wouldStep_30 : decode cX7_wouldStep 30 = .ok (.iload_n 2, 1) := by decide +kernel
theorem dX7_wouldStep_31 : decode cX7_wouldStep 31 = .ok (.iand, 1) := by decide +kernel
theorem dX7_wouldStep_32 : decode cX7_wouldStep 32 = .ok (.ior, 1) := by decide +kernel
theorem dX7_wouldStep_33 : decode cX7_wouldStep 33 = .ok (.ireturn, 1) := by decide +kernel
theorem dX7_registerOf_0 : decode cX7_registerOf 0 = .ok (.iload_n 1, 1) := by decide +kernel
theorem dX7_registerOf_1 : decode cX7_registerOf 1 = .ok (.invokestatic 103, 3) := by decide +kernel
theorem dX7_registerOf_4 : decode cX7_registerOf 4 = .ok (.ifCond .eq 13, 3) := by decide +kernel
theorem dX7_registerOf_7 : decode cX7_registerOf 7 = .ok (.iload_n 2, 1) := by decide +kernel
theorem dX7_registerOf_8 : decode cX7_registerOf 8 = .ok (.iconst 0, 1) := by decide +kernel
theorem dX7_registerOf_9 : decode cX7_registerOf 9 = .ok (.bipush 6, 2) := by decide +kernel
theorem dX7_registerOf_11 : decode cX7_registerOf 11 = .ok (.invokestatic 45, 3) := by decide +kernel
theorem dX7_registerOf_14 : decode cX7_registerOf 14 = .ok (.ifCond .ne 6, 3) := by decide +kernel
theorem dX7_registerOf_17 : decode cX7_registerOf 17 = .ok (.ldc 106, 2) := by decide +kernel
theorem dX7_registerOf_19 : decode cX7_registerOf 19 = .ok (.ireturn, 1) := by decide +kernel
theorem dX7_registerOf_20 : decode cX7_registerOf 20 = .ok (.iload_n 2, 1) := by decide +kernel
theorem dX7_registerOf_21 : decode cX7_registerOf 21 = .ok (.tableswitch 86 0 5 #[39, 48, 54, 60, 66, 76], 39) := by decide +kernel
theorem dX7_registerOf_60 : decode cX7_registerOf 60 = .ok (.aload_n 0, 1) := by decide +kernel
theorem dX7_registerOf_61 : decode cX7_registerOf 61 = .ok (.getfield 7, 3) := by decide +kernel
theorem dX7_registerOf_64 : decode cX7_registerOf 64 = .ok (.iconst 0, 1) := by decide +kernel
theorem dX7_registerOf_65 : decode cX7_registerOf 65 = .ok (.iload_n 1, 1) := by decide +kernel
theorem dX7_registerOf_66 : decode cX7_registerOf 66 = .ok (.iadd, 1) := by decide +kernel
theorem dX7_registerOf_67 : decode cX7_registerOf 67 = .ok (.iaload, 1) := by decide +kernel
theorem dX7_registerOf_68 : decode cX7_registerOf 68 = .ok (.ireturn, 1) := by decide +kernel
theorem dX7_registerOf_69 : decode cX7_registerOf 69 = .ok (.aload_n 0, 1) := by decide +kernel
theorem dX7_registerOf_70 : decode cX7_registerOf 70 = .ok (.iload_n 1, 1) := by decide +kernel
theorem dX7_registerOf_71 : decode cX7_registerOf 71 = .ok (.invokevirtual 49, 3) := by decide +kernel
theorem dX7_registerOf_74 : decode cX7_registerOf 74 = .ok (.ireturn, 1) := by decide +kernel
theorem dX7_registerOf_75 : decode cX7_registerOf 75 = .ok (.aload_n 0, 1) := by decide +kernel
theorem dX7_registerOf_76 : decode cX7_registerOf 76 = .ok (.iload_n 1, 1) := by decide +kernel
theorem dX7_registerOf_77 : decode cX7_registerOf 77 = .ok (.invokevirtual 78, 3) := by decide +kernel
theorem dX7_registerOf_80 : decode cX7_registerOf 80 = .ok (.ireturn, 1) := by decide +kernel
theorem dX7_registerOf_81 : decode cX7_registerOf 81 = .ok (.aload_n 0, 1) := by decide +kernel
theorem dX7_registerOf_82 : decode cX7_registerOf 82 = .ok (.iload_n 1, 1) := by decide +kernel
theorem dX7_registerOf_83 : decode cX7_registerOf 83 = .ok (.invokevirtual 60, 3) := by decide +kernel
theorem dX7_registerOf_86 : decode cX7_registerOf 86 = .ok (.ireturn, 1) := by decide +kernel
theorem dX7_registerOf_87 : decode cX7_registerOf 87 = .ok (.aload_n 0, 1) := by decide +kernel
theorem dX7_registerOf_88 : decode cX7_registerOf 88 = .ok (.getfield 7, 3) := by decide +kernel
theorem dX7_registerOf_91 : decode cX7_registerOf 91 = .ok (.bipush 7, 2) := by decide +kernel
theorem dX7_registerOf_93 : decode cX7_registerOf 93 = .ok (.iload_n 1, 1) := by decide +kernel
theorem dX7_registerOf_94 : decode cX7_registerOf 94 = .ok (.iadd, 1) := by decide +kernel
theorem dX7_registerOf_95 : decode cX7_registerOf 95 = .ok (.iaload, 1) := by decide +kernel
theorem dX7_registerOf_96 : decode cX7_registerOf 96 = .ok (.ireturn, 1) := by decide +kernel
theorem dX7_registerOf_97 : decode cX7_registerOf 97 = .ok (.aload_n 0, 1) := by decide +kernel
theorem dX7_registerOf_98 : decode cX7_registerOf 98 = .ok (.getfield 7, 3) := by decide +kernel
theorem dX7_registerOf_101 : decode cX7_registerOf 101 = .ok (.bipush 21, 2) := by decide +kernel
theorem dX7_registerOf_103 : decode cX7_registerOf 103 = .ok (.iload_n 1, 1) := by decide +kernel
theorem dX7_registerOf_104 : decode cX7_registerOf 104 = .ok (.iadd, 1) := by decide +kernel
theorem dX7_registerOf_105 : decode cX7_registerOf 105 = .ok (.iaload, 1) := by decide +kernel
theorem dX7_registerOf_106 : decode cX7_registerOf 106 = .ok (.ireturn, 1) := by decide +kernel
theorem dX7_registerOf_107 : decode cX7_registerOf 107 = .ok (.aload_n 0, 1) := by decide +kernel
theorem dX7_registerOf_108 : decode cX7_registerOf 108 = .ok (.iload_n 1, 1) := by decide +kernel
theorem dX7_registerOf_109 : decode cX7_registerOf 109 = .ok (.invokevirtual 150, 3) := by decide +kernel
theorem dX7_registerOf_112 : decode cX7_registerOf 112 = .ok (.ireturn, 1) := by decide +kernel
theorem dX7_alarmOf_0 : decode cX7_alarmOf 0 = .ok (.iload_n 1, 1) := by decide +kernel
theorem dX7_alarmOf_1 : decode cX7_alarmOf 1 = .ok (.invokestatic 137, 3) := by decide +kernel
theorem dX7_alarmOf_4 : decode cX7_alarmOf 4 = .ok (.ifCond .eq 13, 3) := by decide +kernel
theorem dX7_alarmOf_7 : decode cX7_alarmOf 7 = .ok (.iload_n 2, 1) := by decide +kernel
theorem dX7_alarmOf_8 : decode cX7_alarmOf 8 = .ok (.iconst 0, 1) := by decide +kernel
theorem dX7_alarmOf_9 : decode cX7_alarmOf 9 = .ok (.bipush 9, 2) := by decide +kernel
theorem dX7_alarmOf_11 : decode cX7_alarmOf 11 = .ok (.invokestatic 45, 3) := by decide +kernel
theorem dX7_alarmOf_14 : decode cX7_alarmOf 14 = .ok (.ifCond .ne 6, 3) := by decide +kernel
theorem dX7_alarmOf_17 : decode cX7_alarmOf 17 = .ok (.ldc 106, 2) := by decide +kernel
theorem dX7_alarmOf_19 : decode cX7_alarmOf 19 = .ok (.ireturn, 1) := by decide +kernel
theorem dX7_alarmOf_20 : decode cX7_alarmOf 20 = .ok (.iload_n 2, 1) := by decide +kernel
theorem dX7_alarmOf_21 : decode cX7_alarmOf 21 = .ok (.bipush 9, 2) := by decide +kernel
theorem dX7_alarmOf_23 : decode cX7_alarmOf 23 = .ok (.if_icmp .ge 17, 3) := by decide +kernel
theorem dX7_alarmOf_26 : decode cX7_alarmOf 26 = .ok (.aload_n 0, 1) := by decide +kernel
theorem dX7_alarmOf_27 : decode cX7_alarmOf 27 = .ok (.getfield 7, 3) := by decide +kernel
theorem dX7_alarmOf_30 : decode cX7_alarmOf 30 = .ok (.iload_n 1, 1) := by decide +kernel
theorem dX7_alarmOf_31 : decode cX7_alarmOf 31 = .ok (.invokestatic 88, 3) := by decide +kernel
theorem dX7_alarmOf_34 : decode cX7_alarmOf 34 = .ok (.iload_n 2, 1) := by decide +kernel
theorem dX7_alarmOf_35 : decode cX7_alarmOf 35 = .ok (.iadd, 1) := by decide +kernel
theorem dX7_alarmOf_36 : decode cX7_alarmOf 36 = .ok (.iaload, 1) := by decide +kernel
theorem dX7_alarmOf_37 : decode cX7_alarmOf 37 = .ok (.goto 16, 3) := by decide +kernel
theorem dX7_alarmOf_40 : decode cX7_alarmOf 40 = .ok (.aload_n 0, 1) := by decide +kernel
theorem dX7_alarmOf_41 : decode cX7_alarmOf 41 = .ok (.iload_n 1, 1) := by decide +kernel
theorem dX7_alarmOf_42 : decode cX7_alarmOf 42 = .ok (.invokevirtual 94, 3) := by decide +kernel
theorem dX7_alarmOf_45 : decode cX7_alarmOf 45 = .ok (.ifCond .eq 7, 3) := by decide +kernel
theorem dX7_alarmOf_48 : decode cX7_alarmOf 48 = .ok (.iconst 1, 1) := by decide +kernel
theorem dX7_alarmOf_49 : decode cX7_alarmOf 49 = .ok (.goto 4, 3) := by decide +kernel
theorem dX7_alarmOf_52 : decode cX7_alarmOf 52 = .ok (.iconst 0, 1) := by decide +kernel
theorem dX7_alarmOf_53 : decode cX7_alarmOf 53 = .ok (.ireturn, 1) := by decide +kernel
theorem dX7_daysAhead_0 : decode cX7_daysAhead 0 = .ok (.aload_n 0, 1) := by decide +kernel
theorem dX7_daysAhead_1 : decode cX7_daysAhead 1 = .ok (.iconst 4, 1) := by decide +kernel
theorem dX7_daysAhead_2 : decode cX7_daysAhead 2 = .ok (.invokevirtual 49, 3) := by decide +kernel
theorem dX7_daysAhead_5 : decode cX7_daysAhead 5 = .ok (.iconst 1, 1) := by decide +kernel
theorem dX7_daysAhead_6 : decode cX7_daysAhead 6 = .ok (.isub, 1) := by decide +kernel
theorem dX7_daysAhead_7 : decode cX7_daysAhead 7 = .ok (.istore_n 2, 1) := by decide +kernel
theorem dX7_daysAhead_8 : decode cX7_daysAhead 8 = .ok (.iconst 1, 1) := by decide +kernel
theorem dX7_daysAhead_9 : decode cX7_daysAhead 9 = .ok (.istore_n 3, 1) := by decide +kernel
theorem dX7_daysAhead_10 : decode cX7_daysAhead 10 = .ok (.iload_n 3, 1) := by decide +kernel
theorem dX7_daysAhead_11 : decode cX7_daysAhead 11 = .ok (.aload_n 0, 1) := by decide +kernel
theorem dX7_daysAhead_12 : decode cX7_daysAhead 12 = .ok (.iconst 5, 1) := by decide +kernel
theorem dX7_daysAhead_13 : decode cX7_daysAhead 13 = .ok (.invokevirtual 49, 3) := by decide +kernel
theorem dX7_daysAhead_16 : decode cX7_daysAhead 16 = .ok (.if_icmp .ge 17, 3) := by decide +kernel
theorem dX7_daysAhead_19 : decode cX7_daysAhead 19 = .ok (.iload_n 2, 1) := by decide +kernel
theorem dX7_daysAhead_20 : decode cX7_daysAhead 20 = .ok (.iload_n 3, 1) := by decide +kernel
theorem dX7_daysAhead_21 : decode cX7_daysAhead 21 = .ok (.iload_n 1, 1) := by decide +kernel
theorem dX7_daysAhead_22 : decode cX7_daysAhead 22 = .ok (.invokestatic 70, 3) := by decide +kernel
theorem dX7_daysAhead_25 : decode cX7_daysAhead 25 = .ok (.iadd, 1) := by decide +kernel
theorem dX7_daysAhead_26 : decode cX7_daysAhead 26 = .ok (.istore_n 2, 1) := by decide +kernel
theorem dX7_daysAhead_27 : decode cX7_daysAhead 27 = .ok (.iinc 3 1, 3) := by decide +kernel
theorem dX7_daysAhead_30 : decode cX7_daysAhead 30 = .ok (.goto (-20), 3) := by decide +kernel
theorem dX7_daysAhead_33 : decode cX7_daysAhead 33 = .ok (.iload_n 2, 1) := by decide +kernel
theorem dX7_daysAhead_34 : decode cX7_daysAhead 34 = .ok (.ireturn, 1) := by decide +kernel
theorem dX7_daysBehind_0 : decode cX7_daysBehind 0 = .ok (.aload_n 0, 1) := by decide +kernel
theorem dX7_daysBehind_1 : decode cX7_daysBehind 1 = .ok (.bipush 6, 2) := by decide +kernel
theorem dX7_daysBehind_3 : decode cX7_daysBehind 3 = .ok (.invokevirtual 49, 3) := by decide +kernel
theorem dX7_daysBehind_6 : decode cX7_daysBehind 6 = .ok (.istore_n 1, 1) := by decide +kernel
theorem dX7_daysBehind_7 : decode cX7_daysBehind 7 = .ok (.sipush 365, 3) := by decide +kernel
theorem dX7_daysBehind_10 : decode cX7_daysBehind 10 = .ok (.iload_n 1, 1) := by decide +kernel
theorem dX7_daysBehind_11 : decode cX7_daysBehind 11 = .ok (.imul, 1) := by decide +kernel
theorem dX7_daysBehind_12 : decode cX7_daysBehind 12 = .ok (.iload_n 1, 1) := by decide +kernel
theorem dX7_daysBehind_13 : decode cX7_daysBehind 13 = .ok (.iconst 3, 1) := by decide +kernel
theorem dX7_daysBehind_14 : decode cX7_daysBehind 14 = .ok (.iadd, 1) := by decide +kernel
theorem dX7_daysBehind_15 : decode cX7_daysBehind 15 = .ok (.iconst 4, 1) := by decide +kernel
theorem dX7_daysBehind_16 : decode cX7_daysBehind 16 = .ok (.idiv, 1) := by decide +kernel
theorem dX7_daysBehind_17 : decode cX7_daysBehind 17 = .ok (.iadd, 1) := by decide +kernel
theorem dX7_daysBehind_18 : decode cX7_daysBehind 18 = .ok (.aload_n 0, 1) := by decide +kernel
theorem dX7_daysBehind_19 : decode cX7_daysBehind 19 = .ok (.aload_n 0, 1) := by decide +kernel
theorem dX7_daysBehind_20 : decode cX7_daysBehind 20 = .ok (.invokevirtual 66, 3) := by decide +kernel
theorem dX7_daysBehind_23 : decode cX7_daysBehind 23 = .ok (.invokevirtual 153, 3) := by decide +kernel
theorem dX7_daysBehind_26 : decode cX7_daysBehind 26 = .ok (.iadd, 1) := by decide +kernel
theorem dX7_daysBehind_27 : decode cX7_daysBehind 27 = .ok (.ireturn, 1) := by decide +kernel
theorem dX7_date_0 : decode cX7_date 0 = .ok (.iload_n 1, 1) := by decide +kernel
theorem dX7_date_1 : decode cX7_date 1 = .ok (.iconst 0, 1) := by decide +kernel
theorem dX7_date_2 : decode cX7_date 2 = .ok (.iconst 4, 1) := by decide +kernel
theorem dX7_date_3 : decode cX7_date 3 = .ok (.invokestatic 45, 3) := by decide +kernel
theorem dX7_date_6 : decode cX7_date 6 = .ok (.ifCond .ne 6, 3) := by decide +kernel
theorem dX7_date_9 : decode cX7_date 9 = .ok (.ldc 106, 2) := by decide +kernel
theorem dX7_date_11 : decode cX7_date 11 = .ok (.ireturn, 1) := by decide +kernel
theorem dX7_date_12 : decode cX7_date 12 = .ok (.iload_n 1, 1) := by decide +kernel
theorem dX7_date_13 : decode cX7_date 13 = .ok (.iconst 3, 1) := by decide +kernel
theorem dX7_date_14 : decode cX7_date 14 = .ok (.if_icmp .ne 8, 3) := by decide +kernel
theorem dX7_date_17 : decode cX7_date 17 = .ok (.aload_n 0, 1) := by decide +kernel
theorem dX7_date_18 : decode cX7_date 18 = .ok (.invokevirtual 53, 3) := by decide +kernel
theorem dX7_date_21 : decode cX7_date 21 = .ok (.ireturn, 1) := by decide +kernel
theorem dX7_date_22 : decode cX7_date 22 = .ok (.aload_n 0, 1) := by decide +kernel
theorem dX7_date_23 : decode cX7_date 23 = .ok (.iconst 4, 1) := by decide +kernel
theorem dX7_date_24 : decode cX7_date 24 = .ok (.invokevirtual 78, 3) := by decide +kernel
theorem dX7_date_27 : decode cX7_date 27 = .ok (.aload_n 0, 1) := by decide +kernel
theorem dX7_date_28 : decode cX7_date 28 = .ok (.iconst 5, 1) := by decide +kernel
theorem dX7_date_29 : decode cX7_date 29 = .ok (.invokevirtual 78, 3) := by decide +kernel
theorem dX7_date_32 : decode cX7_date 32 = .ok (.iadd, 1) := by decide +kernel
theorem dX7_date_33 : decode cX7_date 33 = .ok (.aload_n 0, 1) := by decide +kernel
theorem dX7_date_34 : decode cX7_date 34 = .ok (.bipush 6, 2) := by decide +kernel
theorem dX7_date_36 : decode cX7_date 36 = .ok (.invokevirtual 78, 3) := by decide +kernel
theorem dX7_date_39 : decode cX7_date 39 = .ok (.iadd, 1) := by decide +kernel
theorem dX7_date_40 : decode cX7_date 40 = .ok (.ifCond .le 6, 3) := by decide +kernel
theorem dX7_date_43 : decode cX7_date 43 = .ok (.ldc 113, 2) := by decide +kernel
theorem dX7_date_45 : decode cX7_date 45 = .ok (.ireturn, 1) := by decide +kernel
theorem dX7_date_46 : decode cX7_date 46 = .ok (.aload_n 0, 1) := by decide +kernel
theorem dX7_date_47 : decode cX7_date 47 = .ok (.invokevirtual 157, 3) := by decide +kernel
theorem dX7_date_50 : decode cX7_date 50 = .ok (.iconst 5, 1) := by decide +kernel
theorem dX7_date_51 : decode cX7_date 51 = .ok (.iadd, 1) := by decide +kernel
theorem dX7_date_52 : decode cX7_date 52 = .ok (.bipush 7, 2) := by decide +kernel
theorem dX7_date_54 : decode cX7_date 54 = .ok (.irem, 1) := by decide +kernel
theorem dX7_date_55 : decode cX7_date 55 = .ok (.iconst 1, 1) := by decide +kernel
theorem dX7_date_56 : decode cX7_date 56 = .ok (.iadd, 1) := by decide +kernel
theorem dX7_date_57 : decode cX7_date 57 = .ok (.istore_n 2, 1) := by decide +kernel
theorem dX7_date_58 : decode cX7_date 58 = .ok (.iload_n 1, 1) := by decide +kernel
theorem dX7_date_59 : decode cX7_date 59 = .ok (.tableswitch 47 0 2 #[25, 30, 32], 25) := by decide +kernel
theorem dX7_date_84 : decode cX7_date 84 = .ok (.aload_n 0, 1) := by decide +kernel
theorem dX7_date_85 : decode cX7_date 85 = .ok (.invokevirtual 157, 3) := by decide +kernel
theorem dX7_date_88 : decode cX7_date 88 = .ok (.ireturn, 1) := by decide +kernel
theorem dX7_date_89 : decode cX7_date 89 = .ok (.iload_n 2, 1) := by decide +kernel
theorem dX7_date_90 : decode cX7_date 90 = .ok (.ireturn, 1) := by decide +kernel
theorem dX7_date_91 : decode cX7_date 91 = .ok (.aload_n 0, 1) := by decide +kernel
theorem dX7_date_92 : decode cX7_date 92 = .ok (.iconst 3, 1) := by decide +kernel
theorem dX7_date_93 : decode cX7_date 93 = .ok (.invokevirtual 49, 3) := by decide +kernel
theorem dX7_date_96 : decode cX7_date 96 = .ok (.iload_n 2, 1) := by decide +kernel
theorem dX7_date_97 : decode cX7_date 97 = .ok (.if_icmp .ne 7, 3) := by decide +kernel
theorem dX7_date_100 : decode cX7_date 100 = .ok (.iconst 1, 1) := by decide +kernel
theorem dX7_date_101 : decode cX7_date 101 = .ok (.goto 4, 3) := by decide +kernel
theorem dX7_date_104 : decode cX7_date 104 = .ok (.iconst 0, 1) := by decide +kernel
theorem dX7_date_105 : decode cX7_date 105 = .ok (.ireturn, 1) := by decide +kernel
theorem dX7_date_106 : decode cX7_date 106 = .ok (.aload_n 0, 1) := by decide +kernel
theorem dX7_date_107 : decode cX7_date 107 = .ok (.invokevirtual 66, 3) := by decide +kernel
theorem dX7_date_110 : decode cX7_date 110 = .ok (.ifCond .eq 9, 3) := by decide +kernel
theorem dX7_date_113 : decode cX7_date 113 = .ok (.sipush 365, 3) := by decide +kernel
theorem dX7_date_116 : decode cX7_date 116 = .ok (.goto 6, 3) := by decide +kernel
theorem dX7_date_119 : decode cX7_date 119 = .ok (.sipush 364, 3) := by decide +kernel
theorem dX7_date_122 : decode cX7_date 122 = .ok (.aload_n 0, 1) := by decide +kernel
theorem dX7_date_123 : decode cX7_date 123 = .ok (.aload_n 0, 1) := by decide +kernel
theorem dX7_date_124 : decode cX7_date 124 = .ok (.invokevirtual 66, 3) := by decide +kernel
theorem dX7_date_127 : decode cX7_date 127 = .ok (.invokevirtual 153, 3) := by decide +kernel
theorem dX7_date_130 : decode cX7_date 130 = .ok (.isub, 1) := by decide +kernel
theorem dX7_date_131 : decode cX7_date 131 = .ok (.ireturn, 1) := by decide +kernel
theorem dX7_log_0 : decode cX7_log 0 = .ok (.iload_n 1, 1) := by decide +kernel
theorem dX7_log_1 : decode cX7_log 1 = .ok (.ifCond .lt 13, 3) := by decide +kernel
theorem dX7_log_4 : decode cX7_log 4 = .ok (.iload_n 2, 1) := by decide +kernel
theorem dX7_log_5 : decode cX7_log 5 = .ok (.iconst 0, 1) := by decide +kernel
theorem dX7_log_6 : decode cX7_log 6 = .ok (.bipush 9, 2) := by decide +kernel
theorem dX7_log_8 : decode cX7_log 8 = .ok (.invokestatic 45, 3) := by decide +kernel
theorem dX7_log_11 : decode cX7_log 11 = .ok (.ifCond .ne 6, 3) := by decide +kernel
theorem dX7_log_14 : decode cX7_log 14 = .ok (.ldc 106, 2) := by decide +kernel
theorem dX7_log_16 : decode cX7_log 16 = .ok (.ireturn, 1) := by decide +kernel
theorem dX7_log_17 : decode cX7_log 17 = .ok (.iload_n 1, 1) := by decide +kernel
theorem dX7_log_18 : decode cX7_log 18 = .ok (.aload_n 0, 1) := by decide +kernel
theorem dX7_log_19 : decode cX7_log 19 = .ok (.getfield 7, 3) := by decide +kernel
theorem dX7_log_22 : decode cX7_log 22 = .ok (.bipush 36, 2) := by decide +kernel
theorem dX7_log_24 : decode cX7_log 24 = .ok (.iaload, 1) := by decide +kernel
theorem dX7_log_25 : decode cX7_log 25 = .ok (.if_icmp .ge 20, 3) := by decide +kernel
theorem dX7_log_28 : decode cX7_log 28 = .ok (.aload_n 0, 1) := by decide +kernel
theorem dX7_log_29 : decode cX7_log 29 = .ok (.getfield 7, 3) := by decide +kernel
theorem dX7_log_32 : decode cX7_log 32 = .ok (.bipush 67, 2) := by decide +kernel
theorem dX7_log_34 : decode cX7_log 34 = .ok (.bipush 10, 2) := by decide +kernel
theorem dX7_log_36 : decode cX7_log 36 = .ok (.iload_n 1, 1) := by decide +kernel
theorem dX7_log_37 : decode cX7_log 37 = .ok (.imul, 1) := by decide +kernel
theorem dX7_log_38 : decode cX7_log 38 = .ok (.iadd, 1) := by decide +kernel
theorem dX7_log_39 : decode cX7_log 39 = .ok (.iload_n 2, 1) := by decide +kernel
theorem dX7_log_40 : decode cX7_log 40 = .ok (.iadd, 1) := by decide +kernel
theorem dX7_log_41 : decode cX7_log 41 = .ok (.iaload, 1) := by decide +kernel
theorem dX7_log_42 : decode cX7_log 42 = .ok (.goto 5, 3) := by decide +kernel
theorem dX7_log_45 : decode cX7_log 45 = .ok (.ldc 113, 2) := by decide +kernel
theorem dX7_log_47 : decode cX7_log 47 = .ok (.ireturn, 1) := by decide +kernel
theorem dX7_readable_0 : decode cX7_readable 0 = .ok (.iconst 1, 1) := by decide +kernel
theorem dX7_readable_1 : decode cX7_readable 1 = .ok (.istore_n 1, 1) := by decide +kernel
theorem dX7_readable_2 : decode cX7_readable 2 = .ok (.iload_n 1, 1) := by decide +kernel
theorem dX7_readable_3 : decode cX7_readable 3 = .ok (.bipush 7, 2) := by decide +kernel
theorem dX7_readable_5 : decode cX7_readable 5 = .ok (.if_icmp .ge 36, 3) := by decide +kernel
theorem dX7_readable_8 : decode cX7_readable 8 = .ok (.aload_n 0, 1) := by decide +kernel
theorem dX7_readable_9 : decode cX7_readable 9 = .ok (.getfield 7, 3) := by decide +kernel
theorem dX7_readable_12 : decode cX7_readable 12 = .ok (.bipush 28, 2) := by decide +kernel
theorem dX7_readable_14 : decode cX7_readable 14 = .ok (.iaload, 1) := by decide +kernel
theorem dX7_readable_15 : decode cX7_readable 15 = .ok (.iload_n 1, 1) := by decide +kernel
theorem dX7_readable_16 : decode cX7_readable 16 = .ok (.aload_n 0, 1) := by decide +kernel
theorem dX7_readable_17 : decode cX7_readable 17 = .ok (.getfield 7, 3) := by decide +kernel
theorem dX7_readable_20 : decode cX7_readable 20 = .ok (.bipush 37, 2) := by decide +kernel
theorem dX7_readable_22 : decode cX7_readable 22 = .ok (.iaload, 1) := by decide +kernel
theorem dX7_readable_23 : decode cX7_readable 23 = .ok (.imul, 1) := by decide +kernel
theorem dX7_readable_24 : decode cX7_readable 24 = .ok (.iadd, 1) := by decide +kernel
theorem dX7_readable_25 : decode cX7_readable 25 = .ok (.aload_n 0, 1) := by decide +kernel
theorem dX7_readable_26 : decode cX7_readable 26 = .ok (.getfield 7, 3) := by decide +kernel
theorem dX7_readable_29 : decode cX7_readable 29 = .ok (.bipush 39, 2) := by decide +kernel
theorem dX7_readable_31 : decode cX7_readable 31 = .ok (.iaload, 1) := by decide +kernel
theorem dX7_readable_32 : decode cX7_readable 32 = .ok (.if_icmp .ge 9, 3) := by decide +kernel
theorem dX7_readable_35 : decode cX7_readable 35 = .ok (.iinc 1 1, 3) := by decide +kernel
theorem dX7_readable_38 : decode cX7_readable 38 = .ok (.goto (-36), 3) := by decide +kernel
theorem dX7_readable_41 : decode cX7_readable 41 = .ok (.iload_n 1, 1) := by decide +kernel
theorem dX7_readable_42 : decode cX7_readable 42 = .ok (.ireturn, 1) := by decide +kernel
theorem dX7_safeIn_0 : decode cX7_safeIn 0 = .ok (.bipush 6, 2) := by decide +kernel
theorem dX7_safeIn_2 : decode cX7_safeIn 2 = .ok (.aload_n 0, 1) := by decide +kernel
theorem dX7_safeIn_3 : decode cX7_safeIn 3 = .ok (.getfield 7, 3) := by decide +kernel
theorem dX7_safeIn_6 : decode cX7_safeIn 6 = .ok (.bipush 37, 2) := by decide +kernel
theorem dX7_safeIn_8 : decode cX7_safeIn 8 = .ok (.iaload, 1) := by decide +kernel
theorem dX7_safeIn_9 : decode cX7_safeIn 9 = .ok (.imul, 1) := by decide +kernel
theorem dX7_safeIn_10 : decode cX7_safeIn 10 = .ok (.istore_n 1, 1) := by decide +kernel
theorem dX7_safeIn_11 : decode cX7_safeIn 11 = .ok (.aload_n 0, 1) := by decide +kernel
theorem dX7_safeIn_12 : decode cX7_safeIn 12 = .ok (.getfield 7, 3) := by decide +kernel
theorem dX7_safeIn_15 : decode cX7_safeIn 15 = .ok (.bipush 28, 2) := by decide +kernel
theorem dX7_safeIn_17 : decode cX7_safeIn 17 = .ok (.iaload, 1) := by decide +kernel
theorem dX7_safeIn_18 : decode cX7_safeIn 18 = .ok (.iload_n 1, 1) := by decide +kernel
theorem dX7_safeIn_19 : decode cX7_safeIn 19 = .ok (.iadd, 1) := by decide +kernel
theorem dX7_safeIn_20 : decode cX7_safeIn 20 = .ok (.aload_n 0, 1) := by decide +kernel
theorem dX7_safeIn_21 : decode cX7_safeIn 21 = .ok (.getfield 7, 3) := by decide +kernel
theorem dX7_safeIn_24 : decode cX7_safeIn 24 = .ok (.bipush 39, 2) := by decide +kernel
theorem dX7_safeIn_26 : decode cX7_safeIn 26 = .ok (.iaload, 1) := by decide +kernel
theorem dX7_safeIn_27 : decode cX7_safeIn 27 = .ok (.if_icmp .ge 5, 3) := by decide +kernel
theorem dX7_safeIn_30 : decode cX7_safeIn 30 = .ok (.iconst 0, 1) := by decide +kernel
theorem dX7_safeIn_31 : decode cX7_safeIn 31 = .ok (.ireturn, 1) := by decide +kernel
theorem dX7_safeIn_32 : decode cX7_safeIn 32 = .ok (.iload_n 1, 1) := by decide +kernel
theorem dX7_safeIn_33 : decode cX7_safeIn 33 = .ok (.aload_n 0, 1) := by decide +kernel
theorem dX7_safeIn_34 : decode cX7_safeIn 34 = .ok (.getfield 7, 3) := by decide +kernel
theorem dX7_safeIn_37 : decode cX7_safeIn 37 = .ok (.bipush 39, 2) := by decide +kernel
theorem dX7_safeIn_39 : decode cX7_safeIn 39 = .ok (.iaload, 1) := by decide +kernel
theorem dX7_safeIn_40 : decode cX7_safeIn 40 = .ok (.if_icmp .ge 21, 3) := by decide +kernel
theorem dX7_safeIn_43 : decode cX7_safeIn 43 = .ok (.aload_n 0, 1) := by decide +kernel
theorem dX7_safeIn_44 : decode cX7_safeIn 44 = .ok (.getfield 7, 3) := by decide +kernel
theorem dX7_safeIn_47 : decode cX7_safeIn 47 = .ok (.bipush 39, 2) := by decide +kernel
theorem dX7_safeIn_49 : decode cX7_safeIn 49 = .ok (.iaload, 1) := by decide +kernel
theorem dX7_safeIn_50 : decode cX7_safeIn 50 = .ok (.aload_n 0, 1) := by decide +kernel
theorem dX7_safeIn_51 : decode cX7_safeIn 51 = .ok (.getfield 7, 3) := by decide +kernel
theorem dX7_safeIn_54 : decode cX7_safeIn 54 = .ok (.bipush 28, 2) := by decide +kernel
theorem dX7_safeIn_56 : decode cX7_safeIn 56 = .ok (.iaload, 1) := by decide +kernel
theorem dX7_safeIn_57 : decode cX7_safeIn 57 = .ok (.isub, 1) := by decide +kernel
theorem dX7_safeIn_58 : decode cX7_safeIn 58 = .ok (.goto 5, 3) := by decide +kernel
theorem dX7_safeIn_61 : decode cX7_safeIn 61 = .ok (.ldc 113, 2) := by decide +kernel
theorem dX7_safeIn_63 : decode cX7_safeIn 63 = .ok (.ireturn, 1) := by decide +kernel
theorem dX7_ifBurst_0 : decode cX7_ifBurst 0 = .ok (.iload_n 1, 1) := by decide +kernel
theorem dX7_ifBurst_1 : decode cX7_ifBurst 1 = .ok (.iconst 0, 1) := by decide +kernel
theorem dX7_ifBurst_2 : decode cX7_ifBurst 2 = .ok (.iconst 2, 1) := by decide +kernel
theorem dX7_ifBurst_3 : decode cX7_ifBurst 3 = .ok (.invokestatic 45, 3) := by decide +kernel
theorem dX7_ifBurst_6 : decode cX7_ifBurst 6 = .ok (.ifCond .eq 13, 3) := by decide +kernel
theorem dX7_ifBurst_9 : decode cX7_ifBurst 9 = .ok (.iload_n 2, 1) := by decide +kernel
theorem dX7_ifBurst_10 : decode cX7_ifBurst 10 = .ok (.iconst 0, 1) := by decide +kernel
theorem dX7_ifBurst_11 : decode cX7_ifBurst 11 = .ok (.bipush 9, 2) := by decide +kernel
theorem dX7_ifBurst_13 : decode cX7_ifBurst 13 = .ok (.invokestatic 45, 3) := by decide +kernel
theorem dX7_ifBurst_16 : decode cX7_ifBurst 16 = .ok (.ifCond .ne 6, 3) := by decide +kernel
theorem dX7_ifBurst_19 : decode cX7_ifBurst 19 = .ok (.ldc 106, 2) := by decide +kernel
theorem dX7_ifBurst_21 : decode cX7_ifBurst 21 = .ok (.ireturn, 1) := by decide +kernel
theorem dX7_ifBurst_22 : decode cX7_ifBurst 22 = .ok (.aload_n 0, 1) := by decide +kernel
theorem dX7_ifBurst_23 : decode cX7_ifBurst 23 = .ok (.getfield 7, 3) := by decide +kernel
theorem dX7_ifBurst_26 : decode cX7_ifBurst 26 = .ok (.aload_n 0, 1) := by decide +kernel
theorem dX7_ifBurst_27 : decode cX7_ifBurst 27 = .ok (.getfield 16, 3) := by decide +kernel
theorem dX7_ifBurst_30 : decode cX7_ifBurst 30 = .ok (.invokestatic 160, 3) := by decide +kernel
theorem dX7_ifBurst_33 : decode cX7_ifBurst 33 = .ok (.aload_n 0, 1) := by decide +kernel
theorem dX7_ifBurst_34 : decode cX7_ifBurst 34 = .ok (.iload_n 1, 1) := by decide +kernel
theorem dX7_ifBurst_35 : decode cX7_ifBurst 35 = .ok (.invokevirtual 134, 3) := by decide +kernel
theorem dX7_ifBurst_38 : decode cX7_ifBurst 38 = .ok (.istore_n 3, 1) := by decide +kernel
theorem dX7_ifBurst_39 : decode cX7_ifBurst 39 = .ok (.iload_n 3, 1) := by decide +kernel
theorem dX7_ifBurst_40 : decode cX7_ifBurst 40 = .ok (.ifCond .ge 8, 3) := by decide +kernel
theorem dX7_ifBurst_43 : decode cX7_ifBurst 43 = .ok (.ldc 113, 2) := by decide +kernel
theorem dX7_ifBurst_45 : decode cX7_ifBurst 45 = .ok (.goto 12, 3) := by decide +kernel
theorem dX7_ifBurst_48 : decode cX7_ifBurst 48 = .ok (.aload_n 0, 1) := by decide +kernel
theorem dX7_ifBurst_49 : decode cX7_ifBurst 49 = .ok (.getfield 7, 3) := by decide +kernel
theorem dX7_ifBurst_52 : decode cX7_ifBurst 52 = .ok (.bipush 67, 2) := by decide +kernel
theorem dX7_ifBurst_54 : decode cX7_ifBurst 54 = .ok (.iload_n 2, 1) := by decide +kernel
theorem dX7_ifBurst_55 : decode cX7_ifBurst 55 = .ok (.iadd, 1) := by decide +kernel
theorem dX7_ifBurst_56 : decode cX7_ifBurst 56 = .ok (.iaload, 1) := by decide +kernel
theorem dX7_ifBurst_57 : decode cX7_ifBurst 57 = .ok (.istore 4, 2) := by decide +kernel
theorem dX7_ifBurst_59 : decode cX7_ifBurst 59 = .ok (.aload_n 0, 1) := by decide +kernel
theorem dX7_ifBurst_60 : decode cX7_ifBurst 60 = .ok (.getfield 16, 3) := by decide +kernel
theorem dX7_ifBurst_63 : decode cX7_ifBurst 63 = .ok (.aload_n 0, 1) := by decide +kernel
theorem dX7_ifBurst_64 : decode cX7_ifBurst 64 = .ok (.getfield 7, 3) := by decide +kernel
theorem dX7_ifBurst_67 : decode cX7_ifBurst 67 = .ok (.invokestatic 160, 3) := by decide +kernel
theorem dX7_ifBurst_70 : decode cX7_ifBurst 70 = .ok (.iload 4, 2) := by decide +kernel
theorem dX7_ifBurst_72 : decode cX7_ifBurst 72 = .ok (.ireturn, 1) := by decide +kernel
theorem dX7_comesIn_0 : decode cX7_comesIn 0 = .ok (.iload_n 1, 1) := by decide +kernel
theorem dX7_comesIn_1 : decode cX7_comesIn 1 = .ok (.invokestatic 137, 3) := by decide +kernel
theorem dX7_comesIn_4 : decode cX7_comesIn 4 = .ok (.ifCond .ne 6, 3) := by decide +kernel
theorem dX7_comesIn_7 : decode cX7_comesIn 7 = .ok (.ldc 106, 2) := by decide +kernel
theorem dX7_comesIn_9 : decode cX7_comesIn 9 = .ok (.ireturn, 1) := by decide +kernel
theorem dX7_comesIn_10 : decode cX7_comesIn 10 = .ok (.aload_n 0, 1) := by decide +kernel
theorem dX7_comesIn_11 : decode cX7_comesIn 11 = .ok (.getfield 7, 3) := by decide +kernel
theorem dX7_comesIn_14 : decode cX7_comesIn 14 = .ok (.iload_n 1, 1) := by decide +kernel
theorem dX7_comesIn_15 : decode cX7_comesIn 15 = .ok (.invokestatic 88, 3) := by decide +kernel
theorem dX7_comesIn_18 : decode cX7_comesIn 18 = .ok (.bipush 6, 2) := by decide +kernel
theorem dX7_comesIn_20 : decode cX7_comesIn 20 = .ok (.iadd, 1) := by decide +kernel
theorem dX7_comesIn_21 : decode cX7_comesIn 21 = .ok (.iaload, 1) := by decide +kernel
theorem dX7_comesIn_22 : decode cX7_comesIn 22 = .ok (.ifCond .ne 6, 3) := by decide +kernel
theorem dX7_comesIn_25 : decode cX7_comesIn 25 = .ok (.ldc 146, 2) := by decide +kernel
theorem dX7_comesIn_27 : decode cX7_comesIn 27 = .ok (.ireturn, 1) := by decide +kernel
theorem dX7_comesIn_28 : decode cX7_comesIn 28 = .ok (.aload_n 0, 1) := by decide +kernel
theorem dX7_comesIn_29 : decode cX7_comesIn 29 = .ok (.getfield 7, 3) := by decide +kernel
theorem dX7_comesIn_32 : decode cX7_comesIn 32 = .ok (.aload_n 0, 1) := by decide +kernel
theorem dX7_comesIn_33 : decode cX7_comesIn 33 = .ok (.getfield 16, 3) := by decide +kernel
theorem dX7_comesIn_36 : decode cX7_comesIn 36 = .ok (.invokestatic 160, 3) := by decide +kernel
theorem dX7_comesIn_39 : decode cX7_comesIn 39 = .ok (.iconst 0, 1) := by decide +kernel
theorem dX7_comesIn_40 : decode cX7_comesIn 40 = .ok (.istore_n 2, 1) := by decide +kernel
theorem dX7_comesIn_41 : decode cX7_comesIn 41 = .ok (.aload_n 0, 1) := by decide +kernel
theorem dX7_comesIn_42 : decode cX7_comesIn 42 = .ok (.getfield 7, 3) := by decide +kernel
theorem dX7_comesIn_45 : decode cX7_comesIn 45 = .ok (.iload_n 1, 1) := by decide +kernel
theorem dX7_comesIn_46 : decode cX7_comesIn 46 = .ok (.invokestatic 88, 3) := by decide +kernel
theorem dX7_comesIn_49 : decode cX7_comesIn 49 = .ok (.bipush 8, 2) := by decide +kernel
theorem dX7_comesIn_51 : decode cX7_comesIn 51 = .ok (.iadd, 1) := by decide +kernel
theorem dX7_comesIn_52 : decode cX7_comesIn 52 = .ok (.iaload, 1) := by decide +kernel
theorem dX7_comesIn_53 : decode cX7_comesIn 53 = .ok (.istore_n 3, 1) := by decide +kernel
theorem dX7_comesIn_54 : decode cX7_comesIn 54 = .ok (.iload_n 2, 1) := by decide +kernel
theorem dX7_comesIn_55 : decode cX7_comesIn 55 = .ok (.sipush 4000, 3) := by decide +kernel
theorem dX7_comesIn_58 : decode cX7_comesIn 58 = .ok (.if_icmp .ge 29, 3) := by decide +kernel
theorem dX7_comesIn_61 : decode cX7_comesIn 61 = .ok (.aload_n 0, 1) := by decide +kernel
theorem dX7_comesIn_62 : decode cX7_comesIn 62 = .ok (.getfield 7, 3) := by decide +kernel
theorem dX7_comesIn_65 : decode cX7_comesIn 65 = .ok (.iload_n 1, 1) := by decide +kernel
theorem dX7_comesIn_66 : decode cX7_comesIn 66 = .ok (.invokestatic 88, 3) := by decide +kernel
theorem dX7_comesIn_69 : decode cX7_comesIn 69 = .ok (.bipush 8, 2) := by decide +kernel
theorem dX7_comesIn_71 : decode cX7_comesIn 71 = .ok (.iadd, 1) := by decide +kernel
theorem dX7_comesIn_72 : decode cX7_comesIn 72 = .ok (.iaload, 1) := by decide +kernel
theorem dX7_comesIn_73 : decode cX7_comesIn 73 = .ok (.iload_n 3, 1) := by decide +kernel
theorem dX7_comesIn_74 : decode cX7_comesIn 74 = .ok (.if_icmp .ne 13, 3) := by decide +kernel
theorem dX7_comesIn_77 : decode cX7_comesIn 77 = .ok (.aload_n 0, 1) := by decide +kernel
theorem dX7_comesIn_78 : decode cX7_comesIn 78 = .ok (.invokevirtual 97, 3) := by decide +kernel
theorem dX7_comesIn_81 : decode cX7_comesIn 81 = .ok (.iinc 2 1, 3) := by decide +kernel
theorem dX7_comesIn_84 : decode cX7_comesIn 84 = .ok (.goto (-30), 3) := by decide +kernel
theorem dX7_comesIn_87 : decode cX7_comesIn 87 = .ok (.aload_n 0, 1) := by decide +kernel
theorem dX7_comesIn_88 : decode cX7_comesIn 88 = .ok (.getfield 7, 3) := by decide +kernel
theorem dX7_comesIn_91 : decode cX7_comesIn 91 = .ok (.iload_n 1, 1) := by decide +kernel
theorem dX7_comesIn_92 : decode cX7_comesIn 92 = .ok (.invokestatic 88, 3) := by decide +kernel
theorem dX7_comesIn_95 : decode cX7_comesIn 95 = .ok (.bipush 8, 2) := by decide +kernel
theorem dX7_comesIn_97 : decode cX7_comesIn 97 = .ok (.iadd, 1) := by decide +kernel
theorem dX7_comesIn_98 : decode cX7_comesIn 98 = .ok (.iaload, 1) := by decide +kernel
theorem dX7_comesIn_99 : decode cX7_comesIn 99 = .ok (.iload_n 3, 1) := by decide +kernel
theorem dX7_comesIn_100 : decode cX7_comesIn 100 = .ok (.if_icmp .ne 8, 3) := by decide +kernel
theorem dX7_comesIn_103 : decode cX7_comesIn 103 = .ok (.ldc 113, 2) := by decide +kernel
theorem dX7_comesIn_105 : decode cX7_comesIn 105 = .ok (.goto 4, 3) := by decide +kernel
theorem dX7_comesIn_108 : decode cX7_comesIn 108 = .ok (.iload_n 2, 1) := by decide +kernel
theorem dX7_comesIn_109 : decode cX7_comesIn 109 = .ok (.istore_n 2, 1) := by decide +kernel
theorem dX7_comesIn_110 : decode cX7_comesIn 110 = .ok (.aload_n 0, 1) := by decide +kernel
theorem dX7_comesIn_111 : decode cX7_comesIn 111 = .ok (.getfield 16, 3) := by decide +kernel
theorem dX7_comesIn_114 : decode cX7_comesIn 114 = .ok (.aload_n 0, 1) := by decide +kernel
theorem dX7_comesIn_115 : decode cX7_comesIn 115 = .ok (.getfield 7, 3) := by decide +kernel
theorem dX7_comesIn_118 : decode cX7_comesIn 118 = .ok (.invokestatic 160, 3) := by decide +kernel
theorem dX7_comesIn_121 : decode cX7_comesIn 121 = .ok (.iload_n 2, 1) := by decide +kernel
theorem dX7_comesIn_122 : decode cX7_comesIn 122 = .ok (.ireturn, 1) := by decide +kernel
theorem dX7_share_0 : decode cX7_share 0 = .ok (.aload_n 0, 1) := by decide +kernel
theorem dX7_share_1 : decode cX7_share 1 = .ok (.getfield 7, 3) := by decide +kernel
theorem dX7_share_4 : decode cX7_share 4 = .ok (.bipush 32, 2) := by decide +kernel
theorem dX7_share_6 : decode cX7_share 6 = .ok (.iaload, 1) := by decide +kernel
theorem dX7_share_7 : decode cX7_share 7 = .ok (.i2f, 1) := by decide +kernel
theorem dX7_share_8 : decode cX7_share 8 = .ok (.fstore_n 1, 1) := by decide +kernel
theorem dX7_share_9 : decode cX7_share 9 = .ok (.aload_n 0, 1) := by decide +kernel
theorem dX7_share_10 : decode cX7_share 10 = .ok (.getfield 7, 3) := by decide +kernel
theorem dX7_share_13 : decode cX7_share 13 = .ok (.bipush 31, 2) := by decide +kernel
theorem dX7_share_15 : decode cX7_share 15 = .ok (.iaload, 1) := by decide +kernel
theorem dX7_share_16 : decode cX7_share 16 = .ok (.i2f, 1) := by decide +kernel
theorem dX7_share_17 : decode cX7_share 17 = .ok (.fstore_n 2, 1) := by decide +kernel
theorem dX7_share_18 : decode cX7_share 18 = .ok (.aload_n 0, 1) := by decide +kernel
theorem dX7_share_19 : decode cX7_share 19 = .ok (.getfield 7, 3) := by decide +kernel
theorem dX7_share_22 : decode cX7_share 22 = .ok (.bipush 31, 2) := by decide +kernel
theorem dX7_share_24 : decode cX7_share 24 = .ok (.iaload, 1) := by decide +kernel
theorem dX7_share_25 : decode cX7_share 25 = .ok (.ifCond .ne 8, 3) := by decide +kernel
theorem dX7_share_28 : decode cX7_share 28 = .ok (.ldc 113, 2) := by decide +kernel
theorem dX7_share_30 : decode cX7_share 30 = .ok (.goto 9, 3) := by decide +kernel
theorem dX7_share_33 : decode cX7_share 33 = .ok (.fload_n 1, 1) := by decide +kernel
theorem dX7_share_34 : decode cX7_share 34 = .ok (.fload_n 2, 1) := by decide +kernel
theorem dX7_share_35 : decode cX7_share 35 = .ok (.fdiv, 1) := by decide +kernel
theorem dX7_share_36 : decode cX7_share 36 = .ok (.invokestatic 164, 3) := by decide +kernel
theorem dX7_share_39 : decode cX7_share 39 = .ok (.ireturn, 1) := by decide +kernel
theorem dX7_wrongOnes_0 : decode cX7_wrongOnes 0 = .ok (.iconst 0, 1) := by decide +kernel
theorem dX7_wrongOnes_1 : decode cX7_wrongOnes 1 = .ok (.istore_n 1, 1) := by decide +kernel
theorem dX7_wrongOnes_2 : decode cX7_wrongOnes 2 = .ok (.iconst 0, 1) := by decide +kernel
theorem dX7_wrongOnes_3 : decode cX7_wrongOnes 3 = .ok (.istore_n 2, 1) := by decide +kernel
theorem dX7_wrongOnes_4 : decode cX7_wrongOnes 4 = .ok (.iload_n 2, 1) := by decide +kernel
theorem dX7_wrongOnes_5 : decode cX7_wrongOnes 5 = .ok (.bipush 7, 2) := by decide +kernel
theorem dX7_wrongOnes_7 : decode cX7_wrongOnes 7 = .ok (.if_icmp .ge 27, 3) := by decide +kernel
theorem dX7_wrongOnes_10 : decode cX7_wrongOnes 10 = .ok (.iload_n 1, 1) := by decide +kernel
theorem dX7_wrongOnes_11 : decode cX7_wrongOnes 11 = .ok (.aload_n 0, 1) := by decide +kernel
theorem dX7_wrongOnes_12 : decode cX7_wrongOnes 12 = .ok (.iload_n 2, 1) := by decide +kernel
theorem dX7_wrongOnes_13 : decode cX7_wrongOnes 13 = .ok (.invokevirtual 78, 3) := by decide +kernel
theorem dX7_wrongOnes_16 : decode cX7_wrongOnes 16 = .ok (.ifCond .le 9, 3) := by decide +kernel
theorem dX7_wrongOnes_19 : decode cX7_wrongOnes 19 = .ok (.iconst 1, 1) := by decide +kernel
theorem dX7_wrongOnes_20 : decode cX7_wrongOnes 20 = .ok (.iload_n 2, 1) := by decide +kernel
theorem dX7_wrongOnes_21 : decode cX7_wrongOnes 21 = .ok (.ishl, 1) := by decide +kernel
theorem dX7_wrongOnes_22 : decode cX7_wrongOnes 22 = .ok (.goto 4, 3) := by decide +kernel
theorem dX7_wrongOnes_25 : decode cX7_wrongOnes 25 = .ok (.iconst 0, 1) := by decide +kernel
theorem dX7_wrongOnes_26 : decode cX7_wrongOnes 26 = .ok (.ior, 1) := by decide +kernel
theorem dX7_wrongOnes_27 : decode cX7_wrongOnes 27 = .ok (.istore_n 1, 1) := by decide +kernel
theorem dX7_wrongOnes_28 : decode cX7_wrongOnes 28 = .ok (.iinc 2 1, 3) := by decide +kernel
theorem dX7_wrongOnes_31 : decode cX7_wrongOnes 31 = .ok (.goto (-27), 3) := by decide +kernel
theorem dX7_wrongOnes_34 : decode cX7_wrongOnes 34 = .ok (.iload_n 1, 1) := by decide +kernel
theorem dX7_wrongOnes_35 : decode cX7_wrongOnes 35 = .ok (.ireturn, 1) := by decide +kernel
theorem dX7_count_0 : decode cX7_count 0 = .ok (.iload_n 1, 1) := by decide +kernel
theorem dX7_count_1 : decode cX7_count 1 = .ok (.tableswitch 217 0 22 #[107, 115, 123, 128, 133, 141, 146, 154, 162, 170, 178, 186, 194, 199, 217, 217, 217, 217, 217, 217, 204, 204, 204], 107) := by decide +kernel
theorem dX7_count_108 : decode cX7_count 108 = .ok (.aload_n 0, 1) := by decide +kernel
theorem dX7_count_109 : decode cX7_count 109 = .ok (.getfield 7, 3) := by decide +kernel
theorem dX7_count_112 : decode cX7_count 112 = .ok (.bipush 28, 2) := by decide +kernel
theorem dX7_count_114 : decode cX7_count 114 = .ok (.iaload, 1) := by decide +kernel
theorem dX7_count_115 : decode cX7_count 115 = .ok (.ireturn, 1) := by decide +kernel
theorem dX7_count_116 : decode cX7_count 116 = .ok (.aload_n 0, 1) := by decide +kernel
theorem dX7_count_117 : decode cX7_count 117 = .ok (.getfield 7, 3) := by decide +kernel
theorem dX7_count_120 : decode cX7_count 120 = .ok (.bipush 29, 2) := by decide +kernel
theorem dX7_count_122 : decode cX7_count 122 = .ok (.iaload, 1) := by decide +kernel
theorem dX7_count_123 : decode cX7_count 123 = .ok (.ireturn, 1) := by decide +kernel
theorem dX7_count_124 : decode cX7_count 124 = .ok (.aload_n 0, 1) := by decide +kernel
theorem dX7_count_125 : decode cX7_count 125 = .ok (.invokevirtual 170, 3) := by decide +kernel
theorem dX7_count_128 : decode cX7_count 128 = .ok (.ireturn, 1) := by decide +kernel
theorem dX7_count_129 : decode cX7_count 129 = .ok (.aload_n 0, 1) := by decide +kernel
theorem dX7_count_130 : decode cX7_count 130 = .ok (.invokevirtual 140, 3) := by decide +kernel
theorem dX7_count_133 : decode cX7_count 133 = .ok (.ireturn, 1) := by decide +kernel
theorem dX7_count_134 : decode cX7_count 134 = .ok (.aload_n 0, 1) := by decide +kernel
theorem dX7_count_135 : decode cX7_count 135 = .ok (.getfield 7, 3) := by decide +kernel
theorem dX7_count_138 : decode cX7_count 138 = .ok (.bipush 30, 2) := by decide +kernel
theorem dX7_count_140 : decode cX7_count 140 = .ok (.iaload, 1) := by decide +kernel
theorem dX7_count_141 : decode cX7_count 141 = .ok (.ireturn, 1) := by decide +kernel
theorem dX7_count_142 : decode cX7_count 142 = .ok (.aload_n 0, 1) := by decide +kernel
theorem dX7_count_143 : decode cX7_count 143 = .ok (.invokevirtual 147, 3) := by decide +kernel
theorem dX7_count_146 : decode cX7_count 146 = .ok (.ireturn, 1) := by decide +kernel
theorem dX7_count_147 : decode cX7_count 147 = .ok (.aload_n 0, 1) := by decide +kernel
theorem dX7_count_148 : decode cX7_count 148 = .ok (.getfield 7, 3) := by decide +kernel
theorem dX7_count_151 : decode cX7_count 151 = .ok (.bipush 31, 2) := by decide +kernel
theorem dX7_count_153 : decode cX7_count 153 = .ok (.iaload, 1) := by decide +kernel
theorem dX7_count_154 : decode cX7_count 154 = .ok (.ireturn, 1) := by decide +kernel
theorem dX7_count_155 : decode cX7_count 155 = .ok (.aload_n 0, 1) := by decide +kernel
theorem dX7_count_156 : decode cX7_count 156 = .ok (.getfield 7, 3) := by decide +kernel
theorem dX7_count_159 : decode cX7_count 159 = .ok (.bipush 32, 2) := by decide +kernel
theorem dX7_count_161 : decode cX7_count 161 = .ok (.iaload, 1) := by decide +kernel
theorem dX7_count_162 : decode cX7_count 162 = .ok (.ireturn, 1) := by decide +kernel
theorem dX7_count_163 : decode cX7_count 163 = .ok (.aload_n 0, 1) := by decide +kernel
theorem dX7_count_164 : decode cX7_count 164 = .ok (.getfield 7, 3) := by decide +kernel
theorem dX7_count_167 : decode cX7_count 167 = .ok (.bipush 33, 2) := by decide +kernel
theorem dX7_count_169 : decode cX7_count 169 = .ok (.iaload, 1) := by decide +kernel
theorem dX7_count_170 : decode cX7_count 170 = .ok (.ireturn, 1) := by decide +kernel
theorem dX7_count_171 : decode cX7_count 171 = .ok (.aload_n 0, 1) := by decide +kernel
theorem dX7_count_172 : decode cX7_count 172 = .ok (.getfield 7, 3) := by decide +kernel
theorem dX7_count_175 : decode cX7_count 175 = .ok (.bipush 34, 2) := by decide +kernel
theorem dX7_count_177 : decode cX7_count 177 = .ok (.iaload, 1) := by decide +kernel
theorem dX7_count_178 : decode cX7_count 178 = .ok (.ireturn, 1) := by decide +kernel
theorem dX7_count_179 : decode cX7_count 179 = .ok (.aload_n 0, 1) := by decide +kernel
theorem dX7_count_180 : decode cX7_count 180 = .ok (.getfield 7, 3) := by decide +kernel
theorem dX7_count_183 : decode cX7_count 183 = .ok (.bipush 35, 2) := by decide +kernel
theorem dX7_count_185 : decode cX7_count 185 = .ok (.iaload, 1) := by decide +kernel
theorem dX7_count_186 : decode cX7_count 186 = .ok (.ireturn, 1) := by decide +kernel
theorem dX7_count_187 : decode cX7_count 187 = .ok (.aload_n 0, 1) := by decide +kernel
theorem dX7_count_188 : decode cX7_count 188 = .ok (.getfield 7, 3) := by decide +kernel
theorem dX7_count_191 : decode cX7_count 191 = .ok (.bipush 36, 2) := by decide +kernel
theorem dX7_count_193 : decode cX7_count 193 = .ok (.iaload, 1) := by decide +kernel
theorem dX7_count_194 : decode cX7_count 194 = .ok (.ireturn, 1) := by decide +kernel
theorem dX7_count_195 : decode cX7_count 195 = .ok (.aload_n 0, 1) := by decide +kernel
theorem dX7_count_196 : decode cX7_count 196 = .ok (.getfield 41, 3) := by decide +kernel
theorem dX7_count_199 : decode cX7_count 199 = .ok (.ireturn, 1) := by decide +kernel
theorem dX7_count_200 : decode cX7_count 200 = .ok (.aload_n 0, 1) := by decide +kernel
theorem dX7_count_201 : decode cX7_count 201 = .ok (.getfield 173, 3) := by decide +kernel
theorem dX7_count_204 : decode cX7_count 204 = .ok (.ireturn, 1) := by decide +kernel
theorem dX7_count_205 : decode cX7_count 205 = .ok (.aload_n 0, 1) := by decide +kernel
theorem dX7_count_206 : decode cX7_count 206 = .ok (.getfield 7, 3) := by decide +kernel
theorem dX7_count_209 : decode cX7_count 209 = .ok (.bipush 37, 2) := by decide +kernel
theorem dX7_count_211 : decode cX7_count 211 = .ok (.iload_n 1, 1) := by decide +kernel
theorem dX7_count_212 : decode cX7_count 212 = .ok (.iadd, 1) := by decide +kernel
theorem dX7_count_213 : decode cX7_count 213 = .ok (.bipush 20, 2) := by decide +kernel
theorem dX7_count_215 : decode cX7_count 215 = .ok (.isub, 1) := by decide +kernel
theorem dX7_count_216 : decode cX7_count 216 = .ok (.iaload, 1) := by decide +kernel
theorem dX7_count_217 : decode cX7_count 217 = .ok (.ireturn, 1) := by decide +kernel
theorem dX7_count_218 : decode cX7_count 218 = .ok (.ldc 106, 2) := by decide +kernel
theorem dX7_count_220 : decode cX7_count 220 = .ok (.ireturn, 1) := by decide +kernel
theorem dX7_undo_0 : decode cX7_undo 0 = .ok (.aload_n 0, 1) := by decide +kernel
theorem dX7_undo_1 : decode cX7_undo 1 = .ok (.getfield 41, 3) := by decide +kernel
theorem dX7_undo_4 : decode cX7_undo 4 = .ok (.ifCond .ne 6, 3) := by decide +kernel
theorem dX7_undo_7 : decode cX7_undo 7 = .ok (.ldc 146, 2) := by decide +kernel
theorem dX7_undo_9 : decode cX7_undo 9 = .ok (.ireturn, 1) := by decide +kernel
theorem dX7_undo_10 : decode cX7_undo 10 = .ok (.aload_n 0, 1) := by decide +kernel
theorem dX7_undo_11 : decode cX7_undo 11 = .ok (.dup, 1) := by decide +kernel
theorem dX7_undo_12 : decode cX7_undo 12 = .ok (.getfield 41, 3) := by decide +kernel
theorem dX7_undo_15 : decode cX7_undo 15 = .ok (.iconst 1, 1) := by decide +kernel
theorem dX7_undo_16 : decode cX7_undo 16 = .ok (.isub, 1) := by decide +kernel
theorem dX7_undo_17 : decode cX7_undo 17 = .ok (.putfield 41, 3) := by decide +kernel
theorem dX7_undo_20 : decode cX7_undo 20 = .ok (.iconst 0, 1) := by decide +kernel
theorem dX7_undo_21 : decode cX7_undo 21 = .ok (.istore_n 1, 1) := by decide +kernel
theorem dX7_undo_22 : decode cX7_undo 22 = .ok (.iload_n 1, 1) := by decide +kernel
theorem dX7_undo_23 : decode cX7_undo 23 = .ok (.bipush 127, 2) := by decide +kernel
theorem dX7_undo_25 : decode cX7_undo 25 = .ok (.if_icmp .ge 29, 3) := by decide +kernel
theorem dX7_undo_28 : decode cX7_undo 28 = .ok (.aload_n 0, 1) := by decide +kernel
theorem dX7_undo_29 : decode cX7_undo 29 = .ok (.getfield 7, 3) := by decide +kernel
theorem dX7_undo_32 : decode cX7_undo 32 = .ok (.iload_n 1, 1) := by decide +kernel
theorem dX7_undo_33 : decode cX7_undo 33 = .ok (.aload_n 0, 1) := by decide +kernel
theorem dX7_undo_34 : decode cX7_undo 34 = .ok (.getfield 13, 3) := by decide +kernel
theorem dX7_undo_37 : decode cX7_undo 37 = .ok (.bipush 127, 2) := by decide +kernel
theorem dX7_undo_39 : decode cX7_undo 39 = .ok (.aload_n 0, 1) := by decide +kernel
theorem dX7_undo_40 : decode cX7_undo 40 = .ok (.getfield 41, 3) := by decide +kernel
theorem dX7_undo_43 : decode cX7_undo 43 = .ok (.imul, 1) := by decide +kernel
theorem dX7_undo_44 : decode cX7_undo 44 = .ok (.iload_n 1, 1) := by decide +kernel
theorem dX7_undo_45 : decode cX7_undo 45 = .ok (.iadd, 1) := by decide +kernel
theorem dX7_undo_46 : decode cX7_undo 46 = .ok (.iaload, 1) := by decide +kernel
theorem dX7_undo_47 : decode cX7_undo 47 = .ok (.iastore, 1) := by decide +kernel
theorem dX7_undo_48 : decode cX7_undo 48 = .ok (.iinc 1 1, 3) := by decide +kernel
theorem dX7_undo_51 : decode cX7_undo 51 = .ok (.goto (-29), 3) := by decide +kernel
theorem dX7_undo_54 : decode cX7_undo 54 = .ok (.aload_n 0, 1) := by decide +kernel
theorem dX7_undo_55 : decode cX7_undo 55 = .ok (.getfield 41, 3) := by decide +kernel
theorem dX7_undo_58 : decode cX7_undo 58 = .ok (.ireturn, 1) := by decide +kernel
theorem dX7_type_0 : decode cX7_type 0 = .ok (.iload_n 1, 1) := by decide +kernel
theorem dX7_type_1 : decode cX7_type 1 = .ok (.bipush 32, 2) := by decide +kernel
theorem dX7_type_3 : decode cX7_type 3 = .ok (.bipush 126, 2) := by decide +kernel
theorem dX7_type_5 : decode cX7_type 5 = .ok (.invokestatic 45, 3) := by decide +kernel
theorem dX7_type_8 : decode cX7_type 8 = .ok (.ifCond .ne 6, 3) := by decide +kernel
theorem dX7_type_11 : decode cX7_type 11 = .ok (.ldc 106, 2) := by decide +kernel
theorem dX7_type_13 : decode cX7_type 13 = .ok (.ireturn, 1) := by decide +kernel
theorem dX7_type_14 : decode cX7_type 14 = .ok (.aload_n 0, 1) := by decide +kernel
theorem dX7_type_15 : decode cX7_type 15 = .ok (.getfield 173, 3) := by decide +kernel
theorem dX7_type_18 : decode cX7_type 18 = .ok (.bipush 60, 2) := by decide +kernel
theorem dX7_type_20 : decode cX7_type 20 = .ok (.if_icmp .ne 6, 3) := by decide +kernel
theorem dX7_type_23 : decode cX7_type 23 = .ok (.ldc 176, 2) := by decide +kernel
theorem dX7_type_25 : decode cX7_type 25 = .ok (.ireturn, 1) := by decide +kernel
theorem dX7_type_26 : decode cX7_type 26 = .ok (.aload_n 0, 1) := by decide +kernel
theorem dX7_type_27 : decode cX7_type 27 = .ok (.getfield 22, 3) := by decide +kernel
theorem dX7_type_30 : decode cX7_type 30 = .ok (.aload_n 0, 1) := by decide +kernel
theorem dX7_type_31 : decode cX7_type 31 = .ok (.getfield 173, 3) := by decide +kernel
theorem dX7_type_34 : decode cX7_type 34 = .ok (.iload_n 1, 1) := by decide +kernel
theorem dX7_type_35 : decode cX7_type 35 = .ok (.iastore, 1) := by decide +kernel
theorem dX7_type_36 : decode cX7_type 36 = .ok (.aload_n 0, 1) := by decide +kernel
theorem dX7_type_37 : decode cX7_type 37 = .ok (.dup, 1) := by decide +kernel
theorem dX7_type_38 : decode cX7_type 38 = .ok (.getfield 173, 3) := by decide +kernel
theorem dX7_type_41 : decode cX7_type 41 = .ok (.iconst 1, 1) := by decide +kernel
theorem dX7_type_42 : decode cX7_type 42 = .ok (.iadd, 1) := by decide +kernel
theorem dX7_type_43 : decode cX7_type 43 = .ok (.putfield 173, 3) := by decide +kernel
theorem dX7_type_46 : decode cX7_type 46 = .ok (.aload_n 0, 1) := by decide +kernel
theorem dX7_type_47 : decode cX7_type 47 = .ok (.getfield 173, 3) := by decide +kernel
theorem dX7_type_50 : decode cX7_type 50 = .ok (.ireturn, 1) := by decide +kernel
theorem dX7_clearText_0 : decode cX7_clearText 0 = .ok (.aload_n 0, 1) := by decide +kernel
theorem dX7_clearText_1 : decode cX7_clearText 1 = .ok (.getfield 173, 3) := by decide +kernel
theorem dX7_clearText_4 : decode cX7_clearText 4 = .ok (.istore_n 1, 1) := by decide +kernel
theorem dX7_clearText_5 : decode cX7_clearText 5 = .ok (.aload_n 0, 1) := by decide +kernel
theorem dX7_clearText_6 : decode cX7_clearText 6 = .ok (.iconst 0, 1) := by decide +kernel
theorem dX7_clearText_7 : decode cX7_clearText 7 = .ok (.putfield 173, 3) := by decide +kernel
theorem dX7_clearText_10 : decode cX7_clearText 10 = .ok (.iload_n 1, 1) := by decide +kernel
theorem dX7_clearText_11 : decode cX7_clearText 11 = .ok (.ireturn, 1) := by decide +kernel
theorem dX7_isAt_0 : decode cX7_isAt 0 = .ok (.aload_n 0, 1) := by decide +kernel
theorem dX7_isAt_1 : decode cX7_isAt 1 = .ok (.getfield 177, 3) := by decide +kernel
theorem dX7_isAt_4 : decode cX7_isAt 4 = .ok (.aload_n 0, 1) := by decide +kernel
theorem dX7_isAt_5 : decode cX7_isAt 5 = .ok (.getfield 173, 3) := by decide +kernel
theorem dX7_isAt_8 : decode cX7_isAt 8 = .ok (.if_icmp .ge 24, 3) := by decide +kernel
theorem dX7_isAt_11 : decode cX7_isAt 11 = .ok (.aload_n 0, 1) := by decide +kernel
theorem dX7_isAt_12 : decode cX7_isAt 12 = .ok (.getfield 22, 3) := by decide +kernel
theorem dX7_isAt_15 : decode cX7_isAt 15 = .ok (.aload_n 0, 1) := by decide +kernel
theorem dX7_isAt_16 : decode cX7_isAt 16 = .ok (.getfield 177, 3) := by decide +kernel
theorem dX7_isAt_19 : decode cX7_isAt 19 = .ok (.iaload, 1) := by decide +kernel
theorem dX7_isAt_20 : decode cX7_isAt 20 = .ok (.iload_n 1, 1) := by decide +kernel
theorem dX7_isAt_21 : decode cX7_isAt 21 = .ok (.iload_n 2, 1) := by decide +kernel
theorem dX7_isAt_22 : decode cX7_isAt 22 = .ok (.invokestatic 45, 3) := by decide +kernel
theorem dX7_isAt_25 : decode cX7_isAt 25 = .ok (.ifCond .eq 7, 3) := by decide +kernel
theorem dX7_isAt_28 : decode cX7_isAt 28 = .ok (.iconst 1, 1) := by decide +kernel
theorem dX7_isAt_29 : decode cX7_isAt 29 = .ok (.goto 4, 3) := by decide +kernel
theorem dX7_isAt_32 : decode cX7_isAt 32 = .ok (.iconst 0, 1) := by decide +kernel
theorem dX7_isAt_33 : decode cX7_isAt 33 = .ok (.ireturn, 1) := by decide +kernel
theorem dX7_sign_0 : decode cX7_sign 0 = .ok (.aload_n 0, 1) := by decide +kernel
theorem dX7_sign_1 : decode cX7_sign 1 = .ok (.iload_n 1, 1) := by decide +kernel
theorem dX7_sign_2 : decode cX7_sign 2 = .ok (.iload_n 1, 1) := by decide +kernel
theorem dX7_sign_3 : decode cX7_sign 3 = .ok (.invokevirtual 180, 3) := by decide +kernel
theorem dX7_sign_6 : decode cX7_sign 6 = .ok (.istore_n 2, 1) := by decide +kernel
theorem dX7_sign_7 : decode cX7_sign 7 = .ok (.aload_n 0, 1) := by decide +kernel
theorem dX7_sign_8 : decode cX7_sign 8 = .ok (.dup, 1) := by decide +kernel
theorem dX7_sign_9 : decode cX7_sign 9 = .ok (.getfield 177, 3) := by decide +kernel
theorem dX7_sign_12 : decode cX7_sign 12 = .ok (.iload_n 2, 1) := by decide +kernel
theorem dX7_sign_13 : decode cX7_sign 13 = .ok (.ifCond .eq 7, 3) := by decide +kernel
theorem dX7_sign_16 : decode cX7_sign 16 = .ok (.iconst 1, 1) := by decide +kernel
theorem dX7_sign_17 : decode cX7_sign 17 = .ok (.goto 4, 3) := by decide +kernel
theorem dX7_sign_20 : decode cX7_sign 20 = .ok (.iconst 0, 1) := by decide +kernel
theorem dX7_sign_21 : decode cX7_sign 21 = .ok (.iadd, 1) := by decide +kernel
theorem dX7_sign_22 : decode cX7_sign 22 = .ok (.putfield 177, 3) := by decide +kernel
theorem dX7_sign_25 : decode cX7_sign 25 = .ok (.iload_n 2, 1) := by decide +kernel
theorem dX7_sign_26 : decode cX7_sign 26 = .ok (.ireturn, 1) := by decide +kernel
theorem dX7_numbered_0 : decode cX7_numbered 0 = .ok (.aload_n 0, 1) := by decide +kernel
theorem dX7_numbered_1 : decode cX7_numbered 1 = .ok (.getfield 177, 3) := by decide +kernel
theorem dX7_numbered_4 : decode cX7_numbered 4 = .ok (.istore_n 2, 1) := by decide +kernel
theorem dX7_numbered_5 : decode cX7_numbered 5 = .ok (.aload_n 0, 1) := by decide +kernel
theorem dX7_numbered_6 : decode cX7_numbered 6 = .ok (.getfield 34, 3) := by decide +kernel
theorem dX7_numbered_9 : decode cX7_numbered 9 = .ok (.iload_n 1, 1) := by decide +kernel
theorem dX7_numbered_10 : decode cX7_numbered 10 = .ok (.iconst 0, 1) := by decide +kernel
theorem dX7_numbered_11 : decode cX7_numbered 11 = .ok (.iastore, 1) := by decide +kernel
theorem dX7_numbered_12 : decode cX7_numbered 12 = .ok (.aload_n 0, 1) := by decide +kernel
theorem dX7_numbered_13 : decode cX7_numbered 13 = .ok (.bipush 48, 2) := by decide +kernel
theorem dX7_numbered_15 : decode cX7_numbered 15 = .ok (.bipush 57, 2) := by decide +kernel
theorem dX7_numbered_17 : decode cX7_numbered 17 = .ok (.invokevirtual 180, 3) := by decide +kernel
theorem dX7_numbered_20 : decode cX7_numbered 20 = .ok (.ifCond .eq 54, 3) := by decide +kernel
theorem dX7_numbered_23 : decode cX7_numbered 23 = .ok (.aload_n 0, 1) := by decide +kernel
theorem dX7_numbered_24 : decode cX7_numbered 24 = .ok (.getfield 177, 3) := by decide +kernel
theorem dX7_numbered_27 : decode cX7_numbered 27 = .ok (.iload_n 2, 1) := by decide +kernel
theorem dX7_numbered_28 : decode cX7_numbered 28 = .ok (.isub, 1) := by decide +kernel
theorem dX7_numbered_29 : decode cX7_numbered 29 = .ok (.iconst 3, 1) := by decide +kernel
theorem dX7_numbered_30 : decode cX7_numbered 30 = .ok (.if_icmp .ge 44, 3) := by decide +kernel
theorem dX7_numbered_33 : decode cX7_numbered 33 = .ok (.aload_n 0, 1) := by decide +kernel
theorem dX7_numbered_34 : decode cX7_numbered 34 = .ok (.getfield 34, 3) := by decide +kernel
theorem dX7_numbered_37 : decode cX7_numbered 37 = .ok (.iload_n 1, 1) := by decide +kernel
theorem dX7_numbered_38 : decode cX7_numbered 38 = .ok (.bipush 10, 2) := by decide +kernel
theorem dX7_numbered_40 : decode cX7_numbered 40 = .ok (.aload_n 0, 1) := by decide +kernel
theorem dX7_numbered_41 : decode cX7_numbered 41 = .ok (.getfield 34, 3) := by decide +kernel
theorem dX7_numbered_44 : decode cX7_numbered 44 = .ok (.iload_n 1, 1) := by decide +kernel
theorem dX7_numbered_45 : decode cX7_numbered 45 = .ok (.iaload, 1) := by decide +kernel
theorem dX7_numbered_46 : decode cX7_numbered 46 = .ok (.imul, 1) := by decide +kernel
theorem dX7_numbered_47 : decode cX7_numbered 47 = .ok (.aload_n 0, 1) := by decide +kernel
theorem dX7_numbered_48 : decode cX7_numbered 48 = .ok (.getfield 22, 3) := by decide +kernel
theorem dX7_numbered_51 : decode cX7_numbered 51 = .ok (.aload_n 0, 1) := by decide +kernel
theorem dX7_numbered_52 : decode cX7_numbered 52 = .ok (.getfield 177, 3) := by decide +kernel
theorem dX7_numbered_55 : decode cX7_numbered 55 = .ok (.iaload, 1) := by decide +kernel
theorem dX7_numbered_56 : decode cX7_numbered 56 = .ok (.iadd, 1) := by decide +kernel
theorem dX7_numbered_57 : decode cX7_numbered 57 = .ok (.bipush 48, 2) := by decide +kernel
theorem dX7_numbered_59 : decode cX7_numbered 59 = .ok (.isub, 1) := by decide +kernel
theorem dX7_numbered_60 : decode cX7_numbered 60 = .ok (.iastore, 1) := by decide +kernel
theorem dX7_numbered_61 : decode cX7_numbered 61 = .ok (.aload_n 0, 1) := by decide +kernel
theorem dX7_numbered_62 : decode cX7_numbered 62 = .ok (.dup, 1) := by decide +kernel
theorem dX7_numbered_63 : decode cX7_numbered 63 = .ok (.getfield 177, 3) := by decide +kernel
theorem dX7_numbered_66 : decode cX7_numbered 66 = .ok (.iconst 1, 1) := by decide +kernel
theorem dX7_numbered_67 : decode cX7_numbered 67 = .ok (.iadd, 1) := by decide +kernel
theorem dX7_numbered_68 : decode cX7_numbered 68 = .ok (.putfield 177, 3) := by decide +kernel
theorem dX7_numbered_71 : decode cX7_numbered 71 = .ok (.goto (-59), 3) := by decide +kernel
theorem dX7_numbered_74 : decode cX7_numbered 74 = .ok (.aload_n 0, 1) := by decide +kernel
theorem dX7_numbered_75 : decode cX7_numbered 75 = .ok (.getfield 177, 3) := by decide +kernel
theorem dX7_numbered_78 : decode cX7_numbered 78 = .ok (.iload_n 2, 1) := by decide +kernel
theorem dX7_numbered_79 : decode cX7_numbered 79 = .ok (.if_icmp .le 7, 3) := by decide +kernel
theorem dX7_numbered_82 : decode cX7_numbered 82 = .ok (.iconst 1, 1) := by decide +kernel
theorem dX7_numbered_83 : decode cX7_numbered 83 = .ok (.goto 4, 3) := by decide +kernel
theorem dX7_numbered_86 : decode cX7_numbered 86 = .ok (.iconst 0, 1) := by decide +kernel
theorem dX7_numbered_87 : decode cX7_numbered 87 = .ok (.ireturn, 1) := by decide +kernel
theorem dX7_numbersOf_0 : decode cX7_numbersOf 0 = .ok (.iload_n 0, 1) := by decide +kernel
theorem dX7_numbersOf_1 : decode cX7_numbersOf 1 = .ok (.lookupswitch 65 #[(97, 59), (98, 63), (109, 61), (112, 63), (114, 63), (119, 61)], 59) := by decide +kernel
theorem dX7_numbersOf_60 : decode cX7_numbersOf 60 = .ok (.iconst 3, 1) := by decide +kernel
theorem dX7_numbersOf_61 : decode cX7_numbersOf 61 = .ok (.ireturn, 1) := by decide +kernel
theorem dX7_numbersOf_62 : decode cX7_numbersOf 62 = .ok (.iconst 2, 1) := by decide +kernel
theorem dX7_numbersOf_63 : decode cX7_numbersOf 63 = .ok (.ireturn, 1) := by decide +kernel
theorem dX7_numbersOf_64 : decode cX7_numbersOf 64 = .ok (.iconst 1, 1) := by decide +kernel
theorem dX7_numbersOf_65 : decode cX7_numbersOf 65 = .ok (.ireturn, 1) := by decide +kernel
theorem dX7_numbersOf_66 : decode cX7_numbersOf 66 = .ok (.iconst 0, 1) := by decide +kernel
theorem dX7_numbersOf_67 : decode cX7_numbersOf 67 = .ok (.ireturn, 1) := by decide +kernel
theorem dX7_reads_0 : decode cX7_reads 0 = .ok (.aload_n 0, 1) := by decide +kernel
theorem dX7_reads_1 : decode cX7_reads 1 = .ok (.aload_n 0, 1) := by decide +kernel
theorem dX7_reads_2 : decode cX7_reads 2 = .ok (.bipush 33, 2) := by decide +kernel
theorem dX7_reads_4 : decode cX7_reads 4 = .ok (.bipush 126, 2) := by decide +kernel
theorem dX7_reads_6 : decode cX7_reads 6 = .ok (.invokevirtual 180, 3) := by decide +kernel
theorem dX7_reads_9 : decode cX7_reads 9 = .ok (.ifCond .eq 15, 3) := by decide +kernel
theorem dX7_reads_12 : decode cX7_reads 12 = .ok (.aload_n 0, 1) := by decide +kernel
theorem dX7_reads_13 : decode cX7_reads 13 = .ok (.getfield 22, 3) := by decide +kernel
theorem dX7_reads_16 : decode cX7_reads 16 = .ok (.aload_n 0, 1) := by decide +kernel
theorem dX7_reads_17 : decode cX7_reads 17 = .ok (.getfield 177, 3) := by decide +kernel
theorem dX7_reads_20 : decode cX7_reads 20 = .ok (.iaload, 1) := by decide +kernel
theorem dX7_reads_21 : decode cX7_reads 21 = .ok (.goto 4, 3) := by decide +kernel
theorem dX7_reads_24 : decode cX7_reads 24 = .ok (.iconst 0, 1) := by decide +kernel
theorem dX7_reads_25 : decode cX7_reads 25 = .ok (.putfield 184, 3) := by decide +kernel
theorem dX7_reads_28 : decode cX7_reads 28 = .ok (.aload_n 0, 1) := by decide +kernel
theorem dX7_reads_29 : decode cX7_reads 29 = .ok (.getfield 184, 3) := by decide +kernel
theorem dX7_reads_32 : decode cX7_reads 32 = .ok (.invokestatic 187, 3) := by decide +kernel
theorem dX7_reads_35 : decode cX7_reads 35 = .ok (.istore_n 1, 1) := by decide +kernel
theorem dX7_reads_36 : decode cX7_reads 36 = .ok (.iload_n 1, 1) := by decide +kernel
theorem dX7_reads_37 : decode cX7_reads 37 = .ok (.ifCond .ne 5, 3) := by decide +kernel
theorem dX7_reads_40 : decode cX7_reads 40 = .ok (.iconst 0, 1) := by decide +kernel
theorem dX7_reads_41 : decode cX7_reads 41 = .ok (.ireturn, 1) := by decide +kernel
theorem dX7_reads_42 : decode cX7_reads 42 = .ok (.aload_n 0, 1) := by decide +kernel
theorem dX7_reads_43 : decode cX7_reads 43 = .ok (.dup, 1) := by decide +kernel
theorem dX7_reads_44 : decode cX7_reads 44 = .ok (.getfield 177, 3) := by decide +kernel
theorem dX7_reads_47 : decode cX7_reads 47 = .ok (.iconst 1, 1) := by decide +kernel
theorem dX7_reads_48 : decode cX7_reads 48 = .ok (.iadd, 1) := by decide +kernel
theorem dX7_reads_49 : decode cX7_reads 49 = .ok (.putfield 177, 3) := by decide +kernel
theorem dX7_reads_52 : decode cX7_reads 52 = .ok (.aload_n 0, 1) := by decide +kernel
theorem dX7_reads_53 : decode cX7_reads 53 = .ok (.iconst 0, 1) := by decide +kernel
theorem dX7_reads_54 : decode cX7_reads 54 = .ok (.invokevirtual 190, 3) := by decide +kernel
theorem dX7_reads_57 : decode cX7_reads 57 = .ok (.istore_n 2, 1) := by decide +kernel
theorem dX7_reads_58 : decode cX7_reads 58 = .ok (.iconst 1, 1) := by decide +kernel
theorem dX7_reads_59 : decode cX7_reads 59 = .ok (.istore_n 3, 1) := by decide +kernel
theorem dX7_reads_60 : decode cX7_reads 60 = .ok (.iload_n 3, 1) := by decide +kernel
theorem dX7_reads_61 : decode cX7_reads 61 = .ok (.iload_n 1, 1) := by decide +kernel
theorem dX7_reads_62 : decode cX7_reads 62 = .ok (.if_icmp .ge 36, 3) := by decide +kernel
theorem dX7_reads_65 : decode cX7_reads 65 = .ok (.iload_n 2, 1) := by decide +kernel
theorem dX7_reads_66 : decode cX7_reads 66 = .ok (.ifCond .eq 32, 3) := by decide +kernel
theorem dX7_reads_69 : decode cX7_reads 69 = .ok (.aload_n 0, 1) := by decide +kernel
theorem dX7_reads_70 : decode cX7_reads 70 = .ok (.bipush 44, 2) := by decide +kernel
theorem dX7_reads_72 : decode cX7_reads 72 = .ok (.invokevirtual 193, 3) := by decide +kernel
theorem dX7_reads_75 : decode cX7_reads 75 = .ok (.ifCond .eq 15, 3) := by decide +kernel
theorem dX7_reads_78 : decode cX7_reads 78 = .ok (.aload_n 0, 1) := by decide +kernel
theorem dX7_reads_79 : decode cX7_reads 79 = .ok (.iload_n 3, 1) := by decide +kernel
theorem dX7_reads_80 : decode cX7_reads 80 = .ok (.invokevirtual 190, 3) := by decide +kernel
theorem dX7_reads_83 : decode cX7_reads 83 = .ok (.ifCond .eq 7, 3) := by decide +kernel
theorem dX7_reads_86 : decode cX7_reads 86 = .ok (.iconst 1, 1) := by decide +kernel
theorem dX7_reads_87 : decode cX7_reads 87 = .ok (.goto 4, 3) := by decide +kernel
theorem dX7_reads_90 : decode cX7_reads 90 = .ok (.iconst 0, 1) := by decide +kernel
theorem dX7_reads_91 : decode cX7_reads 91 = .ok (.istore_n 2, 1) := by decide +kernel
theorem dX7_reads_92 : decode cX7_reads 92 = .ok (.iinc 3 1, 3) := by decide +kernel
theorem dX7_reads_95 : decode cX7_reads 95 = .ok (.goto (-35), 3) := by decide +kernel
theorem dX7_reads_98 : decode cX7_reads 98 = .ok (.iload_n 2, 1) := by decide +kernel
theorem dX7_reads_99 : decode cX7_reads 99 = .ok (.ifCond .eq 16, 3) := by decide +kernel
theorem dX7_reads_102 : decode cX7_reads 102 = .ok (.aload_n 0, 1) := by decide +kernel
theorem dX7_reads_103 : decode cX7_reads 103 = .ok (.bipush 59, 2) := by decide +kernel
theorem dX7_reads_105 : decode cX7_reads 105 = .ok (.invokevirtual 193, 3) := by decide +kernel
theorem dX7_reads_108 : decode cX7_reads 108 = .ok (.ifCond .eq 7, 3) := by decide +kernel
theorem dX7_reads_111 : decode cX7_reads 111 = .ok (.iconst 1, 1) := by decide +kernel
theorem dX7_reads_112 : decode cX7_reads 112 = .ok (.goto 4, 3) := by decide +kernel
theorem dX7_reads_115 : decode cX7_reads 115 = .ok (.iconst 0, 1) := by decide +kernel
theorem dX7_reads_116 : decode cX7_reads 116 = .ok (.ireturn, 1) := by decide +kernel
theorem dX7_does_0 : decode cX7_does 0 = .ok (.aload_n 0, 1) := by decide +kernel
theorem dX7_does_1 : decode cX7_does 1 = .ok (.getfield 184, 3) := by decide +kernel
theorem dX7_does_4 : decode cX7_does 4 = .ok (.lookupswitch 125 #[(97, 102), (98, 80), (112, 91), (114, 69), (119, 52)], 52) := by decide +kernel
theorem dX7_does_56 : decode cX7_does 56 = .ok (.aload_n 0, 1) := by decide +kernel
theorem dX7_does_57 : decode cX7_does 57 = .ok (.aload_n 0, 1) := by decide +kernel
theorem dX7_does_58 : decode cX7_does 58 = .ok (.getfield 34, 3) := by decide +kernel
theorem dX7_does_61 : decode cX7_does 61 = .ok (.iconst 0, 1) := by decide +kernel
theorem dX7_does_62 : decode cX7_does 62 = .ok (.iaload, 1) := by decide +kernel
theorem dX7_does_63 : decode cX7_does 63 = .ok (.aload_n 0, 1) := by decide +kernel
theorem dX7_does_64 : decode cX7_does 64 = .ok (.getfield 34, 3) := by decide +kernel
theorem dX7_does_67 : decode cX7_does 67 = .ok (.iconst 1, 1) := by decide +kernel
theorem dX7_does_68 : decode cX7_does 68 = .ok (.iaload, 1) := by decide +kernel
theorem dX7_does_69 : decode cX7_does 69 = .ok (.invokevirtual 196, 3) := by decide +kernel
theorem dX7_does_72 : decode cX7_does 72 = .ok (.ireturn, 1) := by decide +kernel
theorem dX7_does_73 : decode cX7_does 73 = .ok (.aload_n 0, 1) := by decide +kernel
theorem dX7_does_74 : decode cX7_does 74 = .ok (.aload_n 0, 1) := by decide +kernel
theorem dX7_does_75 : decode cX7_does 75 = .ok (.getfield 34, 3) := by decide +kernel
theorem dX7_does_78 : decode cX7_does 78 = .ok (.iconst 0, 1) := by decide +kernel
theorem dX7_does_79 : decode cX7_does 79 = .ok (.iaload, 1) := by decide +kernel
theorem dX7_does_80 : decode cX7_does 80 = .ok (.invokevirtual 200, 3) := by decide +kernel
theorem dX7_does_83 : decode cX7_does 83 = .ok (.ireturn, 1) := by decide +kernel
theorem dX7_does_84 : decode cX7_does 84 = .ok (.aload_n 0, 1) := by decide +kernel
theorem dX7_does_85 : decode cX7_does 85 = .ok (.aload_n 0, 1) := by decide +kernel
theorem dX7_does_86 : decode cX7_does 86 = .ok (.getfield 34, 3) := by decide +kernel
theorem dX7_does_89 : decode cX7_does 89 = .ok (.iconst 0, 1) := by decide +kernel
theorem dX7_does_90 : decode cX7_does 90 = .ok (.iaload, 1) := by decide +kernel
theorem dX7_does_91 : decode cX7_does 91 = .ok (.invokevirtual 203, 3) := by decide +kernel
theorem dX7_does_94 : decode cX7_does 94 = .ok (.ireturn, 1) := by decide +kernel
theorem dX7_does_95 : decode cX7_does 95 = .ok (.aload_n 0, 1) := by decide +kernel
theorem dX7_does_96 : decode cX7_does 96 = .ok (.aload_n 0, 1) := by decide +kernel
theorem dX7_does_97 : decode cX7_does 97 = .ok (.getfield 34, 3) := by decide +kernel
theorem dX7_does_100 : decode cX7_does 100 = .ok (.iconst 0, 1) := by decide +kernel
theorem dX7_does_101 : decode cX7_does 101 = .ok (.iaload, 1) := by decide +kernel
theorem dX7_does_102 : decode cX7_does 102 = .ok (.invokevirtual 206, 3) := by decide +kernel
theorem dX7_does_105 : decode cX7_does 105 = .ok (.ireturn, 1) := by decide +kernel
theorem dX7_does_106 : decode cX7_does 106 = .ok (.aload_n 0, 1) := by decide +kernel
theorem dX7_does_107 : decode cX7_does 107 = .ok (.aload_n 0, 1) := by decide +kernel
theorem dX7_does_108 : decode cX7_does 108 = .ok (.getfield 34, 3) := by decide +kernel
theorem dX7_does_111 : decode cX7_does 111 = .ok (.iconst 0, 1) := by decide +kernel
theorem dX7_does_112 : decode cX7_does 112 = .ok (.iaload, 1) := by decide +kernel
theorem dX7_does_113 : decode cX7_does 113 = .ok (.aload_n 0, 1) := by decide +kernel
theorem dX7_does_114 : decode cX7_does 114 = .ok (.getfield 34, 3) := by decide +kernel
theorem dX7_does_117 : decode cX7_does 117 = .ok (.iconst 1, 1) := by decide +kernel
theorem dX7_does_118 : decode cX7_does 118 = .ok (.iaload, 1) := by decide +kernel
theorem dX7_does_119 : decode cX7_does 119 = .ok (.aload_n 0, 1) := by decide +kernel
theorem dX7_does_120 : decode cX7_does 120 = .ok (.getfield 34, 3) := by decide +kernel
theorem dX7_does_123 : decode cX7_does 123 = .ok (.iconst 2, 1) := by decide +kernel
theorem dX7_does_124 : decode cX7_does 124 = .ok (.iaload, 1) := by decide +kernel
theorem dX7_does_125 : decode cX7_does 125 = .ok (.invokevirtual 209, 3) := by decide +kernel
theorem dX7_does_128 : decode cX7_does 128 = .ok (.ireturn, 1) := by decide +kernel
theorem dX7_does_129 : decode cX7_does 129 = .ok (.aload_n 0, 1) := by decide +kernel
theorem dX7_does_130 : decode cX7_does 130 = .ok (.aload_n 0, 1) := by decide +kernel
theorem dX7_does_131 : decode cX7_does 131 = .ok (.getfield 34, 3) := by decide +kernel
theorem dX7_does_134 : decode cX7_does 134 = .ok (.iconst 0, 1) := by decide +kernel
theorem dX7_does_135 : decode cX7_does 135 = .ok (.iaload, 1) := by decide +kernel
theorem dX7_does_136 : decode cX7_does 136 = .ok (.aload_n 0, 1) := by decide +kernel
theorem dX7_does_137 : decode cX7_does 137 = .ok (.getfield 34, 3) := by decide +kernel
theorem dX7_does_140 : decode cX7_does 140 = .ok (.iconst 1, 1) := by decide +kernel
theorem dX7_does_141 : decode cX7_does 141 = .ok (.iaload, 1) := by decide +kernel
theorem dX7_does_142 : decode cX7_does 142 = .ok (.invokevirtual 213, 3) := by decide +kernel
theorem dX7_does_145 : decode cX7_does 145 = .ok (.ireturn, 1) := by decide +kernel
theorem dX7_plays_0 : decode cX7_plays 0 = .ok (.aload_n 0, 1) := by decide +kernel
theorem dX7_plays_1 : decode cX7_plays 1 = .ok (.iconst 1, 1) := by decide +kernel
theorem dX7_plays_2 : decode cX7_plays 2 = .ok (.putfield 37, 3) := by decide +kernel
theorem dX7_plays_5 : decode cX7_plays 5 = .ok (.aload_n 0, 1) := by decide +kernel
theorem dX7_plays_6 : decode cX7_plays 6 = .ok (.iconst 0, 1) := by decide +kernel
theorem dX7_plays_7 : decode cX7_plays 7 = .ok (.putfield 177, 3) := by decide +kernel
theorem dX7_plays_10 : decode cX7_plays 10 = .ok (.aload_n 0, 1) := by decide +kernel
theorem dX7_plays_11 : decode cX7_plays 11 = .ok (.iconst 0, 1) := by decide +kernel
theorem dX7_plays_12 : decode cX7_plays 12 = .ok (.putfield 216, 3) := by decide +kernel
theorem dX7_plays_15 : decode cX7_plays 15 = .ok (.aload_n 0, 1) := by decide +kernel
theorem dX7_plays_16 : decode cX7_plays 16 = .ok (.iconst 0, 1) := by decide +kernel
theorem dX7_plays_17 : decode cX7_plays 17 = .ok (.putfield 219, 3) := by decide +kernel
theorem dX7_plays_20 : decode cX7_plays 20 = .ok (.iconst 1, 1) := by decide +kernel
theorem dX7_plays_21 : decode cX7_plays 21 = .ok (.istore_n 1, 1) := by decide +kernel
theorem dX7_plays_22 : decode cX7_plays 22 = .ok (.aload_n 0, 1) := by decide +kernel
theorem dX7_plays_23 : decode cX7_plays 23 = .ok (.getfield 177, 3) := by decide +kernel
theorem dX7_plays_26 : decode cX7_plays 26 = .ok (.aload_n 0, 1) := by decide +kernel
theorem dX7_plays_27 : decode cX7_plays 27 = .ok (.getfield 173, 3) := by decide +kernel
theorem dX7_plays_30 : decode cX7_plays 30 = .ok (.if_icmp .ge 94, 3) := by decide +kernel
theorem dX7_plays_33 : decode cX7_plays 33 = .ok (.iload_n 1, 1) := by decide +kernel
theorem dX7_plays_34 : decode cX7_plays 34 = .ok (.ifCond .eq 90, 3) := by decide +kernel
theorem dX7_plays_37 : decode cX7_plays 37 = .ok (.aload_n 0, 1) := by decide +kernel
theorem dX7_plays_38 : decode cX7_plays 38 = .ok (.aload_n 0, 1) := by decide +kernel
theorem dX7_plays_39 : decode cX7_plays 39 = .ok (.getfield 177, 3) := by decide +kernel
theorem dX7_plays_42 : decode cX7_plays 42 = .ok (.putfield 216, 3) := by decide +kernel
theorem dX7_plays_45 : decode cX7_plays 45 = .ok (.aload_n 0, 1) := by decide +kernel
theorem dX7_plays_46 : decode cX7_plays 46 = .ok (.invokevirtual 222, 3) := by decide +kernel
theorem dX7_plays_49 : decode cX7_plays 49 = .ok (.istore_n 2, 1) := by decide +kernel
theorem dX7_plays_50 : decode cX7_plays 50 = .ok (.iload_n 2, 1) := by decide +kernel
theorem dX7_plays_51 : decode cX7_plays 51 = .ok (.ifCond .eq 10, 3) := by decide +kernel
theorem dX7_plays_54 : decode cX7_plays 54 = .ok (.aload_n 0, 1) := by decide +kernel
theorem dX7_plays_55 : decode cX7_plays 55 = .ok (.invokevirtual 225, 3) := by decide +kernel
theorem dX7_plays_58 : decode cX7_plays 58 = .ok (.goto 4, 3) := by decide +kernel
theorem dX7_plays_61 : decode cX7_plays 61 = .ok (.iconst 0, 1) := by decide +kernel
theorem dX7_plays_62 : decode cX7_plays 62 = .ok (.istore_n 3, 1) := by decide +kernel
theorem dX7_plays_63 : decode cX7_plays 63 = .ok (.iload_n 2, 1) := by decide +kernel
theorem dX7_plays_64 : decode cX7_plays 64 = .ok (.ifCond .eq 11, 3) := by decide +kernel
theorem dX7_plays_67 : decode cX7_plays 67 = .ok (.iload_n 3, 1) := by decide +kernel
theorem dX7_plays_68 : decode cX7_plays 68 = .ok (.ifCond .lt 7, 3) := by decide +kernel
theorem dX7_plays_71 : decode cX7_plays 71 = .ok (.iconst 1, 1) := by decide +kernel
theorem dX7_plays_72 : decode cX7_plays 72 = .ok (.goto 4, 3) := by decide +kernel
theorem dX7_plays_75 : decode cX7_plays 75 = .ok (.iconst 0, 1) := by decide +kernel
theorem dX7_plays_76 : decode cX7_plays 76 = .ok (.istore_n 1, 1) := by decide +kernel
theorem dX7_plays_77 : decode cX7_plays 77 = .ok (.aload_n 0, 1) := by decide +kernel
theorem dX7_plays_78 : decode cX7_plays 78 = .ok (.iload_n 2, 1) := by decide +kernel
theorem dX7_plays_79 : decode cX7_plays 79 = .ok (.ifCond .eq 7, 3) := by decide +kernel
theorem dX7_plays_82 : decode cX7_plays 82 = .ok (.iconst 2, 1) := by decide +kernel
theorem dX7_plays_83 : decode cX7_plays 83 = .ok (.goto 4, 3) := by decide +kernel
theorem dX7_plays_86 : decode cX7_plays 86 = .ok (.iconst 1, 1) := by decide +kernel
theorem dX7_plays_87 : decode cX7_plays 87 = .ok (.putfield 228, 3) := by decide +kernel
theorem dX7_plays_90 : decode cX7_plays 90 = .ok (.aload_n 0, 1) := by decide +kernel
theorem dX7_plays_91 : decode cX7_plays 91 = .ok (.iload_n 2, 1) := by decide +kernel
theorem dX7_plays_92 : decode cX7_plays 92 = .ok (.ifCond .eq 7, 3) := by decide +kernel
theorem dX7_plays_95 : decode cX7_plays 95 = .ok (.iload_n 3, 1) := by decide +kernel
theorem dX7_plays_96 : decode cX7_plays 96 = .ok (.goto 12, 3) := by decide +kernel
theorem dX7_plays_99 : decode cX7_plays 99 = .ok (.aload_n 0, 1) := by decide +kernel
theorem dX7_plays_100 : decode cX7_plays 100 = .ok (.getfield 177, 3) := by decide +kernel
theorem dX7_plays_103 : decode cX7_plays 103 = .ok (.aload_n 0, 1) := by decide +kernel
theorem dX7_plays_104 : decode cX7_plays 104 = .ok (.getfield 216, 3) := by decide +kernel
theorem dX7_plays_107 : decode cX7_plays 107 = .ok (.isub, 1) := by decide +kernel
theorem dX7_plays_108 : decode cX7_plays 108 = .ok (.putfield 231, 3) := by decide +kernel
theorem dX7_plays_111 : decode cX7_plays 111 = .ok (.aload_n 0, 1) := by decide +kernel
theorem dX7_plays_112 : decode cX7_plays 112 = .ok (.dup, 1) := by decide +kernel
theorem dX7_plays_113 : decode cX7_plays 113 = .ok (.getfield 219, 3) := by decide +kernel
theorem dX7_plays_116 : decode cX7_plays 116 = .ok (.iconst 1, 1) := by decide +kernel
theorem dX7_plays_117 : decode cX7_plays 117 = .ok (.iadd, 1) := by decide +kernel
theorem dX7_plays_118 : decode cX7_plays 118 = .ok (.putfield 219, 3) := by decide +kernel
theorem dX7_plays_121 : decode cX7_plays 121 = .ok (.goto (-99), 3) := by decide +kernel
theorem dX7_plays_124 : decode cX7_plays 124 = .ok (.aload_n 0, 1) := by decide +kernel
theorem dX7_plays_125 : decode cX7_plays 125 = .ok (.iconst 0, 1) := by decide +kernel
theorem dX7_plays_126 : decode cX7_plays 126 = .ok (.putfield 37, 3) := by decide +kernel
theorem dX7_plays_129 : decode cX7_plays 129 = .ok (.iload_n 1, 1) := by decide +kernel
theorem dX7_plays_130 : decode cX7_plays 130 = .ok (.ireturn, 1) := by decide +kernel
theorem dX7_fault_0 : decode cX7_fault 0 = .ok (.iload_n 1, 1) := by decide +kernel
theorem dX7_fault_1 : decode cX7_fault 1 = .ok (.iconst 0, 1) := by decide +kernel
theorem dX7_fault_2 : decode cX7_fault 2 = .ok (.iconst 2, 1) := by decide +kernel
theorem dX7_fault_3 : decode cX7_fault 3 = .ok (.invokestatic 45, 3) := by decide +kernel
theorem dX7_fault_6 : decode cX7_fault 6 = .ok (.ifCond .ne 6, 3) := by decide +kernel
theorem dX7_fault_9 : decode cX7_fault 9 = .ok (.ldc 106, 2) := by decide +kernel
theorem dX7_fault_11 : decode cX7_fault 11 = .ok (.ireturn, 1) := by decide +kernel
theorem dX7_fault_12 : decode cX7_fault 12 = .ok (.aload_n 0, 1) := by decide +kernel
theorem dX7_fault_13 : decode cX7_fault 13 = .ok (.getfield 7, 3) := by decide +kernel
theorem dX7_fault_16 : decode cX7_fault 16 = .ok (.aload_n 0, 1) := by decide +kernel
theorem dX7_fault_17 : decode cX7_fault 17 = .ok (.getfield 19, 3) := by decide +kernel
theorem dX7_fault_20 : decode cX7_fault 20 = .ok (.invokestatic 160, 3) := by decide +kernel
theorem dX7_fault_23 : decode cX7_fault 23 = .ok (.aload_n 0, 1) := by decide +kernel
theorem dX7_fault_24 : decode cX7_fault 24 = .ok (.invokevirtual 234, 3) := by decide +kernel
theorem dX7_fault_27 : decode cX7_fault 27 = .ok (.istore_n 2, 1) := by decide +kernel
theorem dX7_fault_28 : decode cX7_fault 28 = .ok (.aload_n 0, 1) := by decide +kernel
theorem dX7_fault_29 : decode cX7_fault 29 = .ok (.getfield 19, 3) := by decide +kernel
theorem dX7_fault_32 : decode cX7_fault 32 = .ok (.aload_n 0, 1) := by decide +kernel
theorem dX7_fault_33 : decode cX7_fault 33 = .ok (.getfield 7, 3) := by decide +kernel
theorem dX7_fault_36 : decode cX7_fault 36 = .ok (.invokestatic 160, 3) := by decide +kernel
theorem dX7_fault_39 : decode cX7_fault 39 = .ok (.iload_n 2, 1) := by decide +kernel
theorem dX7_fault_40 : decode cX7_fault 40 = .ok (.ifCond .eq 8, 3) := by decide +kernel
theorem dX7_fault_43 : decode cX7_fault 43 = .ok (.ldc 113, 2) := by decide +kernel
theorem dX7_fault_45 : decode cX7_fault 45 = .ok (.goto 30, 3) := by decide +kernel
theorem dX7_fault_48 : decode cX7_fault 48 = .ok (.iload_n 1, 1) := by decide +kernel
theorem dX7_fault_49 : decode cX7_fault 49 = .ok (.ifCond .ne 10, 3) := by decide +kernel
theorem dX7_fault_52 : decode cX7_fault 52 = .ok (.aload_n 0, 1) := by decide +kernel
theorem dX7_fault_53 : decode cX7_fault 53 = .ok (.getfield 216, 3) := by decide +kernel
theorem dX7_fault_56 : decode cX7_fault 56 = .ok (.goto 19, 3) := by decide +kernel
theorem dX7_fault_59 : decode cX7_fault 59 = .ok (.iload_n 1, 1) := by decide +kernel
theorem dX7_fault_60 : decode cX7_fault 60 = .ok (.iconst 1, 1) := by decide +kernel
theorem dX7_fault_61 : decode cX7_fault 61 = .ok (.if_icmp .ne 10, 3) := by decide +kernel
theorem dX7_fault_64 : decode cX7_fault 64 = .ok (.aload_n 0, 1) := by decide +kernel
theorem dX7_fault_65 : decode cX7_fault 65 = .ok (.getfield 228, 3) := by decide +kernel
theorem dX7_fault_68 : decode cX7_fault 68 = .ok (.goto 7, 3) := by decide +kernel
theorem dX7_fault_71 : decode cX7_fault 71 = .ok (.aload_n 0, 1) := by decide +kernel
theorem dX7_fault_72 : decode cX7_fault 72 = .ok (.getfield 231, 3) := by decide +kernel
theorem dX7_fault_75 : decode cX7_fault 75 = .ok (.ireturn, 1) := by decide +kernel
theorem dX7_play_0 : decode cX7_play 0 = .ok (.aload_n 0, 1) := by decide +kernel
theorem dX7_play_1 : decode cX7_play 1 = .ok (.getfield 7, 3) := by decide +kernel
theorem dX7_play_4 : decode cX7_play 4 = .ok (.aload_n 0, 1) := by decide +kernel
theorem dX7_play_5 : decode cX7_play 5 = .ok (.getfield 19, 3) := by decide +kernel
theorem dX7_play_8 : decode cX7_play 8 = .ok (.invokestatic 160, 3) := by decide +kernel
theorem dX7_play_11 : decode cX7_play 11 = .ok (.aload_n 0, 1) := by decide +kernel
theorem dX7_play_12 : decode cX7_play 12 = .ok (.invokevirtual 234, 3) := by decide +kernel
theorem dX7_play_15 : decode cX7_play 15 = .ok (.istore_n 1, 1) := by decide +kernel
theorem dX7_play_16 : decode cX7_play 16 = .ok (.aload_n 0, 1) := by decide +kernel
theorem dX7_play_17 : decode cX7_play 17 = .ok (.getfield 19, 3) := by decide +kernel
theorem dX7_play_20 : decode cX7_play 20 = .ok (.aload_n 0, 1) := by decide +kernel
theorem dX7_play_21 : decode cX7_play 21 = .ok (.getfield 7, 3) := by decide +kernel
theorem dX7_play_24 : decode cX7_play 24 = .ok (.invokestatic 160, 3) := by decide +kernel
theorem dX7_play_27 : decode cX7_play 27 = .ok (.iload_n 1, 1) := by decide +kernel
theorem dX7_play_28 : decode cX7_play 28 = .ok (.ifCond .ne 6, 3) := by decide +kernel
theorem dX7_play_31 : decode cX7_play 31 = .ok (.ldc 146, 2) := by decide +kernel
theorem dX7_play_33 : decode cX7_play 33 = .ok (.ireturn, 1) := by decide +kernel
theorem dX7_play_34 : decode cX7_play 34 = .ok (.aload_n 0, 1) := by decide +kernel
theorem dX7_play_35 : decode cX7_play 35 = .ok (.invokevirtual 107, 3) := by decide +kernel
theorem dX7_play_38 : decode cX7_play 38 = .ok (.aload_n 0, 1) := by decide +kernel
theorem dX7_play_39 : decode cX7_play 39 = .ok (.invokevirtual 234, 3) := by decide +kernel
theorem dX7_play_42 : decode cX7_play 42 = .ok (.ifCond .eq 10, 3) := by decide +kernel
theorem dX7_play_45 : decode cX7_play 45 = .ok (.aload_n 0, 1) := by decide +kernel
theorem dX7_play_46 : decode cX7_play 46 = .ok (.getfield 219, 3) := by decide +kernel
theorem dX7_play_49 : decode cX7_play 49 = .ok (.goto 5, 3) := by decide +kernel
theorem dX7_play_52 : decode cX7_play 52 = .ok (.ldc 113, 2) := by decide +kernel
theorem dX7_play_54 : decode cX7_play 54 = .ok (.ireturn, 1) := by decide +kernel
theorem dJxf58ca_isNaN_12338_0 : decode cJxf58ca_isNaN_12338 0 = .ok (.fload_n 0, 1) := by decide +kernel
theorem dJxf58ca_isNaN_12338_1 : decode cJxf58ca_isNaN_12338 1 = .ok (.fload_n 0, 1) := by decide +kernel
theorem dJxf58ca_isNaN_12338_2 : decode cJxf58ca_isNaN_12338 2 = .ok (.fcmp .l, 1) := by decide +kernel
theorem dJxf58ca_isNaN_12338_3 : decode cJxf58ca_isNaN_12338 3 = .ok (.ifCond .eq 7, 3) := by decide +kernel
theorem dJxf58ca_isNaN_12338_6 : decode cJxf58ca_isNaN_12338 6 = .ok (.iconst 1, 1) := by decide +kernel
theorem dJxf58ca_isNaN_12338_7 : decode cJxf58ca_isNaN_12338 7 = .ok (.goto 4, 3) := by decide +kernel
theorem dJxf58ca_isNaN_12338_10 : decode cJxf58ca_isNaN_12338 10 = .ok (.iconst 0, 1) := by decide +kernel
theorem dJxf58ca_isNaN_12338_11 : decode cJxf58ca_isNaN_12338 11 = .ok (.ireturn, 1) := by decide +kernel
theorem dJxf58ca_floatToIntBits_5c35a_0 : decode cJxf58ca_floatToIntBits_5c35a 0 = .ok (.fload_n 0, 1) := by decide +kernel
theorem dJxf58ca_floatToIntBits_5c35a_1 : decode cJxf58ca_floatToIntBits_5c35a 1 = .ok (.invokestatic 59, 3) := by decide +kernel
theorem dJxf58ca_floatToIntBits_5c35a_4 : decode cJxf58ca_floatToIntBits_5c35a 4 = .ok (.ifCond .ne 8, 3) := by decide +kernel
theorem dJxf58ca_floatToIntBits_5c35a_7 : decode cJxf58ca_floatToIntBits_5c35a 7 = .ok (.fload_n 0, 1) := by decide +kernel
theorem dJxf58ca_floatToIntBits_5c35a_8 : decode cJxf58ca_floatToIntBits_5c35a 8 = .ok (.invokestatic 74, 3) := by decide +kernel
theorem dJxf58ca_floatToIntBits_5c35a_11 : decode cJxf58ca_floatToIntBits_5c35a 11 = .ok (.ireturn, 1) := by decide +kernel
theorem dJxf58ca_floatToIntBits_5c35a_12 : decode cJxf58ca_floatToIntBits_5c35a 12 = .ok (.ldc 77, 2) := by decide +kernel
theorem dJxf58ca_floatToIntBits_5c35a_14 : decode cJxf58ca_floatToIntBits_5c35a 14 = .ok (.ireturn, 1) := by decide +kernel
theorem dJ6_bitCount_0f7a4_0 : decode cJ6_bitCount_0f7a4 0 = .ok (.iload_n 0, 1) := by decide +kernel
theorem dJ6_bitCount_0f7a4_1 : decode cJ6_bitCount_0f7a4 1 = .ok (.iload_n 0, 1) := by decide +kernel
theorem dJ6_bitCount_0f7a4_2 : decode cJ6_bitCount_0f7a4 2 = .ok (.iconst 1, 1) := by decide +kernel
theorem dJ6_bitCount_0f7a4_3 : decode cJ6_bitCount_0f7a4 3 = .ok (.iushr, 1) := by decide +kernel
theorem dJ6_bitCount_0f7a4_4 : decode cJ6_bitCount_0f7a4 4 = .ok (.ldc_w 265, 3) := by decide +kernel
theorem dJ6_bitCount_0f7a4_7 : decode cJ6_bitCount_0f7a4 7 = .ok (.iand, 1) := by decide +kernel
theorem dJ6_bitCount_0f7a4_8 : decode cJ6_bitCount_0f7a4 8 = .ok (.isub, 1) := by decide +kernel
theorem dJ6_bitCount_0f7a4_9 : decode cJ6_bitCount_0f7a4 9 = .ok (.istore_n 0, 1) := by decide +kernel
theorem dJ6_bitCount_0f7a4_10 : decode cJ6_bitCount_0f7a4 10 = .ok (.iload_n 0, 1) := by decide +kernel
theorem dJ6_bitCount_0f7a4_11 : decode cJ6_bitCount_0f7a4 11 = .ok (.ldc_w 266, 3) := by decide +kernel
theorem dJ6_bitCount_0f7a4_14 : decode cJ6_bitCount_0f7a4 14 = .ok (.iand, 1) := by decide +kernel
theorem dJ6_bitCount_0f7a4_15 : decode cJ6_bitCount_0f7a4 15 = .ok (.iload_n 0, 1) := by decide +kernel
theorem dJ6_bitCount_0f7a4_16 : decode cJ6_bitCount_0f7a4 16 = .ok (.iconst 2, 1) := by decide +kernel
theorem dJ6_bitCount_0f7a4_17 : decode cJ6_bitCount_0f7a4 17 = .ok (.iushr, 1) := by decide +kernel
theorem dJ6_bitCount_0f7a4_18 : decode cJ6_bitCount_0f7a4 18 = .ok (.ldc_w 266, 3) := by decide +kernel
theorem dJ6_bitCount_0f7a4_21 : decode cJ6_bitCount_0f7a4 21 = .ok (.iand, 1) := by decide +kernel
theorem dJ6_bitCount_0f7a4_22 : decode cJ6_bitCount_0f7a4 22 = .ok (.iadd, 1) := by decide +kernel
theorem dJ6_bitCount_0f7a4_23 : decode cJ6_bitCount_0f7a4 23 = .ok (.istore_n 0, 1) := by decide +kernel
theorem dJ6_bitCount_0f7a4_24 : decode cJ6_bitCount_0f7a4 24 = .ok (.iload_n 0, 1) := by decide +kernel
theorem dJ6_bitCount_0f7a4_25 : decode cJ6_bitCount_0f7a4 25 = .ok (.iload_n 0, 1) := by decide +kernel
theorem dJ6_bitCount_0f7a4_26 : decode cJ6_bitCount_0f7a4 26 = .ok (.iconst 4, 1) := by decide +kernel
theorem dJ6_bitCount_0f7a4_27 : decode cJ6_bitCount_0f7a4 27 = .ok (.iushr, 1) := by decide +kernel
theorem dJ6_bitCount_0f7a4_28 : decode cJ6_bitCount_0f7a4 28 = .ok (.iadd, 1) := by decide +kernel
theorem dJ6_bitCount_0f7a4_29 : decode cJ6_bitCount_0f7a4 29 = .ok (.ldc_w 267, 3) := by decide +kernel
theorem dJ6_bitCount_0f7a4_32 : decode cJ6_bitCount_0f7a4 32 = .ok (.iand, 1) := by decide +kernel
theorem dJ6_bitCount_0f7a4_33 : decode cJ6_bitCount_0f7a4 33 = .ok (.istore_n 0, 1) := by decide +kernel
theorem dJ6_bitCount_0f7a4_34 : decode cJ6_bitCount_0f7a4 34 = .ok (.iload_n 0, 1) := by decide +kernel
theorem dJ6_bitCount_0f7a4_35 : decode cJ6_bitCount_0f7a4 35 = .ok (.iload_n 0, 1) := by decide +kernel
theorem dJ6_bitCount_0f7a4_36 : decode cJ6_bitCount_0f7a4 36 = .ok (.bipush 8, 2) := by decide +kernel
theorem dJ6_bitCount_0f7a4_38 : decode cJ6_bitCount_0f7a4 38 = .ok (.iushr, 1) := by decide +kernel
theorem dJ6_bitCount_0f7a4_39 : decode cJ6_bitCount_0f7a4 39 = .ok (.iadd, 1) := by decide +kernel
theorem dJ6_bitCount_0f7a4_40 : decode cJ6_bitCount_0f7a4 40 = .ok (.istore_n 0, 1) := by decide +kernel
theorem dJ6_bitCount_0f7a4_41 : decode cJ6_bitCount_0f7a4 41 = .ok (.iload_n 0, 1) := by decide +kernel
theorem dJ6_bitCount_0f7a4_42 : decode cJ6_bitCount_0f7a4 42 = .ok (.iload_n 0, 1) := by decide +kernel
theorem dJ6_bitCount_0f7a4_43 : decode cJ6_bitCount_0f7a4 43 = .ok (.bipush 16, 2) := by decide +kernel
theorem dJ6_bitCount_0f7a4_45 : decode cJ6_bitCount_0f7a4 45 = .ok (.iushr, 1) := by decide +kernel
theorem dJ6_bitCount_0f7a4_46 : decode cJ6_bitCount_0f7a4 46 = .ok (.iadd, 1) := by decide +kernel
theorem dJ6_bitCount_0f7a4_47 : decode cJ6_bitCount_0f7a4 47 = .ok (.istore_n 0, 1) := by decide +kernel
theorem dJ6_bitCount_0f7a4_48 : decode cJ6_bitCount_0f7a4 48 = .ok (.iload_n 0, 1) := by decide +kernel
theorem dJ6_bitCount_0f7a4_49 : decode cJ6_bitCount_0f7a4 49 = .ok (.bipush 63, 2) := by decide +kernel
theorem dJ6_bitCount_0f7a4_51 : decode cJ6_bitCount_0f7a4 51 = .ok (.iand, 1) := by decide +kernel
theorem dJ6_bitCount_0f7a4_52 : decode cJ6_bitCount_0f7a4 52 = .ok (.ireturn, 1) := by decide +kernel
theorem dL_law_0 : decode cL_law 0 = .ok (.new 7, 3) := by decide +kernel
theorem dL_law_3 : decode cL_law 3 = .ok (.dup, 1) := by decide +kernel
theorem dL_law_4 : decode cL_law 4 = .ok (.invokespecial 9, 3) := by decide +kernel
theorem dL_law_7 : decode cL_law 7 = .ok (.astore_n 1, 1) := by decide +kernel
theorem dL_law_8 : decode cL_law 8 = .ok (.new 10, 3) := by decide +kernel
theorem dL_law_11 : decode cL_law 11 = .ok (.dup, 1) := by decide +kernel
theorem dL_law_12 : decode cL_law 12 = .ok (.invokespecial 12, 3) := by decide +kernel
theorem dL_law_15 : decode cL_law 15 = .ok (.astore_n 2, 1) := by decide +kernel
theorem dL_law_16 : decode cL_law 16 = .ok (.iconst 0, 1) := by decide +kernel
theorem dL_law_17 : decode cL_law 17 = .ok (.istore_n 3, 1) := by decide +kernel
theorem dL_law_18 : decode cL_law 18 = .ok (.iload_n 3, 1) := by decide +kernel
theorem dL_law_19 : decode cL_law 19 = .ok (.aload_n 0, 1) := by decide +kernel
theorem dL_law_20 : decode cL_law 20 = .ok (.arraylength, 1) := by decide +kernel
theorem dL_law_21 : decode cL_law 21 = .ok (.iconst 4, 1) := by decide +kernel
theorem dL_law_22 : decode cL_law 22 = .ok (.isub, 1) := by decide +kernel
theorem dL_law_23 : decode cL_law 23 = .ok (.if_icmp .gt 756, 3) := by decide +kernel
theorem dL_law_26 : decode cL_law 26 = .ok (.aload_n 0, 1) := by decide +kernel
theorem dL_law_27 : decode cL_law 27 = .ok (.iload_n 3, 1) := by decide +kernel
theorem dL_law_28 : decode cL_law 28 = .ok (.iaload, 1) := by decide +kernel
theorem dL_law_29 : decode cL_law 29 = .ok (.bipush 31, 2) := by decide +kernel
theorem dL_law_31 : decode cL_law 31 = .ok (.iand, 1) := by decide +kernel
theorem dL_law_32 : decode cL_law 32 = .ok (.tableswitch 741 0 24 #[116, 149, 172, 195, 218, 261, 294, 307, 350, 383, 416, 449, 482, 505, 538, 551, 564, 597, 620, 633, 656, 669, 692, 705, 728], 116) := by decide +kernel
theorem dL_law_148 : decode cL_law 148 = .ok (.aload_n 1, 1) := by decide +kernel
theorem dL_law_149 : decode cL_law 149 = .ok (.aload_n 0, 1) := by decide +kernel
theorem dL_law_150 : decode cL_law 150 = .ok (.iload_n 3, 1) := by decide +kernel
theorem dL_law_151 : decode cL_law 151 = .ok (.iconst 1, 1) := by decide +kernel
theorem dL_law_152 : decode cL_law 152 = .ok (.iadd, 1) := by decide +kernel
theorem dL_law_153 : decode cL_law 153 = .ok (.iaload, 1) := by decide +kernel
theorem dL_law_154 : decode cL_law 154 = .ok (.aload_n 0, 1) := by decide +kernel
theorem dL_law_155 : decode cL_law 155 = .ok (.iload_n 3, 1) := by decide +kernel
theorem dL_law_156 : decode cL_law 156 = .ok (.iconst 2, 1) := by decide +kernel
theorem dL_law_157 : decode cL_law 157 = .ok (.iadd, 1) := by decide +kernel
theorem dL_law_158 : decode cL_law 158 = .ok (.iaload, 1) := by decide +kernel
theorem dL_law_159 : decode cL_law 159 = .ok (.invokevirtual 13, 3) := by decide +kernel
theorem dL_law_162 : decode cL_law 162 = .ok (.aload_n 2, 1) := by decide +kernel
theorem dL_law_163 : decode cL_law 163 = .ok (.aload_n 0, 1) := by decide +kernel
theorem dL_law_164 : decode cL_law 164 = .ok (.iload_n 3, 1) := by decide +kernel
theorem dL_law_165 : decode cL_law 165 = .ok (.iconst 1, 1) := by decide +kernel
theorem dL_law_166 : decode cL_law 166 = .ok (.iadd, 1) := by decide +kernel
theorem dL_law_167 : decode cL_law 167 = .ok (.iaload, 1) := by decide +kernel
theorem dL_law_168 : decode cL_law 168 = .ok (.aload_n 0, 1) := by decide +kernel
theorem dL_law_169 : decode cL_law 169 = .ok (.iload_n 3, 1) := by decide +kernel
theorem dL_law_170 : decode cL_law 170 = .ok (.iconst 2, 1) := by decide +kernel
theorem dL_law_171 : decode cL_law 171 = .ok (.iadd, 1) := by decide +kernel
theorem dL_law_172 : decode cL_law 172 = .ok (.iaload, 1) := by decide +kernel
theorem dL_law_173 : decode cL_law 173 = .ok (.invokevirtual 17, 3) := by decide +kernel
theorem dL_law_176 : decode cL_law 176 = .ok (.if_icmp .eq 597, 3) := by decide +kernel
theorem dL_law_179 : decode cL_law 179 = .ok (.iconst 0, 1) := by decide +kernel
theorem dL_law_180 : decode cL_law 180 = .ok (.ireturn, 1) := by decide +kernel
theorem dL_law_181 : decode cL_law 181 = .ok (.aload_n 1, 1) := by decide +kernel
theorem dL_law_182 : decode cL_law 182 = .ok (.aload_n 0, 1) := by decide +kernel
theorem dL_law_183 : decode cL_law 183 = .ok (.iload_n 3, 1) := by decide +kernel
theorem dL_law_184 : decode cL_law 184 = .ok (.iconst 1, 1) := by decide +kernel
theorem dL_law_185 : decode cL_law 185 = .ok (.iadd, 1) := by decide +kernel
theorem dL_law_186 : decode cL_law 186 = .ok (.iaload, 1) := by decide +kernel
theorem dL_law_187 : decode cL_law 187 = .ok (.invokevirtual 18, 3) := by decide +kernel
theorem dL_law_190 : decode cL_law 190 = .ok (.aload_n 2, 1) := by decide +kernel
theorem dL_law_191 : decode cL_law 191 = .ok (.aload_n 0, 1) := by decide +kernel
theorem dL_law_192 : decode cL_law 192 = .ok (.iload_n 3, 1) := by decide +kernel
theorem dL_law_193 : decode cL_law 193 = .ok (.iconst 1, 1) := by decide +kernel
theorem dL_law_194 : decode cL_law 194 = .ok (.iadd, 1) := by decide +kernel
theorem dL_law_195 : decode cL_law 195 = .ok (.iaload, 1) := by decide +kernel
theorem dL_law_196 : decode cL_law 196 = .ok (.invokevirtual 22, 3) := by decide +kernel
theorem dL_law_199 : decode cL_law 199 = .ok (.if_icmp .eq 574, 3) := by decide +kernel
theorem dL_law_202 : decode cL_law 202 = .ok (.iconst 0, 1) := by decide +kernel
theorem dL_law_203 : decode cL_law 203 = .ok (.ireturn, 1) := by decide +kernel
theorem dL_law_204 : decode cL_law 204 = .ok (.aload_n 1, 1) := by decide +kernel
theorem dL_law_205 : decode cL_law 205 = .ok (.aload_n 0, 1) := by decide +kernel
theorem dL_law_206 : decode cL_law 206 = .ok (.iload_n 3, 1) := by decide +kernel
theorem dL_law_207 : decode cL_law 207 = .ok (.iconst 1, 1) := by decide +kernel
theorem dL_law_208 : decode cL_law 208 = .ok (.iadd, 1) := by decide +kernel
theorem dL_law_209 : decode cL_law 209 = .ok (.iaload, 1) := by decide +kernel
theorem dL_law_210 : decode cL_law 210 = .ok (.invokevirtual 23, 3) := by decide +kernel
theorem dL_law_213 : decode cL_law 213 = .ok (.aload_n 2, 1) := by decide +kernel
theorem dL_law_214 : decode cL_law 214 = .ok (.aload_n 0, 1) := by decide +kernel
theorem dL_law_215 : decode cL_law 215 = .ok (.iload_n 3, 1) := by decide +kernel
theorem dL_law_216 : decode cL_law 216 = .ok (.iconst 1, 1) := by decide +kernel
theorem dL_law_217 : decode cL_law 217 = .ok (.iadd, 1) := by decide +kernel
theorem dL_law_218 : decode cL_law 218 = .ok (.iaload, 1) := by decide +kernel
theorem dL_law_219 : decode cL_law 219 = .ok (.invokevirtual 26, 3) := by decide +kernel
theorem dL_law_222 : decode cL_law 222 = .ok (.if_icmp .eq 551, 3) := by decide +kernel
theorem dL_law_225 : decode cL_law 225 = .ok (.iconst 0, 1) := by decide +kernel
theorem dL_law_226 : decode cL_law 226 = .ok (.ireturn, 1) := by decide +kernel
theorem dL_law_227 : decode cL_law 227 = .ok (.aload_n 1, 1) := by decide +kernel
theorem dL_law_228 : decode cL_law 228 = .ok (.aload_n 0, 1) := by decide +kernel
theorem dL_law_229 : decode cL_law 229 = .ok (.iload_n 3, 1) := by decide +kernel
theorem dL_law_230 : decode cL_law 230 = .ok (.iconst 1, 1) := by decide +kernel
theorem dL_law_231 : decode cL_law 231 = .ok (.iadd, 1) := by decide +kernel
theorem dL_law_232 : decode cL_law 232 = .ok (.iaload, 1) := by decide +kernel
theorem dL_law_233 : decode cL_law 233 = .ok (.invokevirtual 27, 3) := by decide +kernel
theorem dL_law_236 : decode cL_law 236 = .ok (.aload_n 2, 1) := by decide +kernel
theorem dL_law_237 : decode cL_law 237 = .ok (.aload_n 0, 1) := by decide +kernel
theorem dL_law_238 : decode cL_law 238 = .ok (.iload_n 3, 1) := by decide +kernel
theorem dL_law_239 : decode cL_law 239 = .ok (.iconst 1, 1) := by decide +kernel
theorem dL_law_240 : decode cL_law 240 = .ok (.iadd, 1) := by decide +kernel
theorem dL_law_241 : decode cL_law 241 = .ok (.iaload, 1) := by decide +kernel
theorem dL_law_242 : decode cL_law 242 = .ok (.invokevirtual 30, 3) := by decide +kernel
theorem dL_law_245 : decode cL_law 245 = .ok (.if_icmp .eq 528, 3) := by decide +kernel
theorem dL_law_248 : decode cL_law 248 = .ok (.iconst 0, 1) := by decide +kernel
theorem dL_law_249 : decode cL_law 249 = .ok (.ireturn, 1) := by decide +kernel
theorem dL_law_250 : decode cL_law 250 = .ok (.aload_n 1, 1) := by decide +kernel
theorem dL_law_251 : decode cL_law 251 = .ok (.aload_n 0, 1) := by decide +kernel
theorem dL_law_252 : decode cL_law 252 = .ok (.iload_n 3, 1) := by decide +kernel
theorem dL_law_253 : decode cL_law 253 = .ok (.iconst 1, 1) := by decide +kernel
theorem dL_law_254 : decode cL_law 254 = .ok (.iadd, 1) := by decide +kernel
theorem dL_law_255 : decode cL_law 255 = .ok (.iaload, 1) := by decide +kernel
theorem dL_law_256 : decode cL_law 256 = .ok (.aload_n 0, 1) := by decide +kernel
theorem dL_law_257 : decode cL_law 257 = .ok (.iload_n 3, 1) := by decide +kernel
theorem dL_law_258 : decode cL_law 258 = .ok (.iconst 2, 1) := by decide +kernel
theorem dL_law_259 : decode cL_law 259 = .ok (.iadd, 1) := by decide +kernel
theorem dL_law_260 : decode cL_law 260 = .ok (.iaload, 1) := by decide +kernel
theorem dL_law_261 : decode cL_law 261 = .ok (.aload_n 0, 1) := by decide +kernel
theorem dL_law_262 : decode cL_law 262 = .ok (.iload_n 3, 1) := by decide +kernel
theorem dL_law_263 : decode cL_law 263 = .ok (.iconst 3, 1) := by decide +kernel
theorem dL_law_264 : decode cL_law 264 = .ok (.iadd, 1) := by decide +kernel
theorem dL_law_265 : decode cL_law 265 = .ok (.iaload, 1) := by decide +kernel
theorem dL_law_266 : decode cL_law 266 = .ok (.invokevirtual 31, 3) := by decide +kernel
theorem dL_law_269 : decode cL_law 269 = .ok (.aload_n 2, 1) := by decide +kernel
theorem dL_law_270 : decode cL_law 270 = .ok (.aload_n 0, 1) := by decide +kernel
theorem dL_law_271 : decode cL_law 271 = .ok (.iload_n 3, 1) := by decide +kernel
theorem dL_law_272 : decode cL_law 272 = .ok (.iconst 1, 1) := by decide +kernel
theorem dL_law_273 : decode cL_law 273 = .ok (.iadd, 1) := by decide +kernel
theorem dL_law_274 : decode cL_law 274 = .ok (.iaload, 1) := by decide +kernel
theorem dL_law_275 : decode cL_law 275 = .ok (.aload_n 0, 1) := by decide +kernel
theorem dL_law_276 : decode cL_law 276 = .ok (.iload_n 3, 1) := by decide +kernel
theorem dL_law_277 : decode cL_law 277 = .ok (.iconst 2, 1) := by decide +kernel
theorem dL_law_278 : decode cL_law 278 = .ok (.iadd, 1) := by decide +kernel
theorem dL_law_279 : decode cL_law 279 = .ok (.iaload, 1) := by decide +kernel
theorem dL_law_280 : decode cL_law 280 = .ok (.aload_n 0, 1) := by decide +kernel
theorem dL_law_281 : decode cL_law 281 = .ok (.iload_n 3, 1) := by decide +kernel
theorem dL_law_282 : decode cL_law 282 = .ok (.iconst 3, 1) := by decide +kernel
theorem dL_law_283 : decode cL_law 283 = .ok (.iadd, 1) := by decide +kernel
theorem dL_law_284 : decode cL_law 284 = .ok (.iaload, 1) := by decide +kernel
theorem dL_law_285 : decode cL_law 285 = .ok (.invokevirtual 35, 3) := by decide +kernel
theorem dL_law_288 : decode cL_law 288 = .ok (.if_icmp .eq 485, 3) := by decide +kernel
theorem dL_law_291 : decode cL_law 291 = .ok (.iconst 0, 1) := by decide +kernel
theorem dL_law_292 : decode cL_law 292 = .ok (.ireturn, 1) := by decide +kernel
theorem dL_law_293 : decode cL_law 293 = .ok (.aload_n 1, 1) := by decide +kernel
theorem dL_law_294 : decode cL_law 294 = .ok (.aload_n 0, 1) := by decide +kernel
theorem dL_law_295 : decode cL_law 295 = .ok (.iload_n 3, 1) := by decide +kernel
theorem dL_law_296 : decode cL_law 296 = .ok (.iconst 1, 1) := by decide +kernel
theorem dL_law_297 : decode cL_law 297 = .ok (.iadd, 1) := by decide +kernel
theorem dL_law_298 : decode cL_law 298 = .ok (.iaload, 1) := by decide +kernel
theorem dL_law_299 : decode cL_law 299 = .ok (.aload_n 0, 1) := by decide +kernel
theorem dL_law_300 : decode cL_law 300 = .ok (.iload_n 3, 1) := by decide +kernel
theorem dL_law_301 : decode cL_law 301 = .ok (.iconst 2, 1) := by decide +kernel
theorem dL_law_302 : decode cL_law 302 = .ok (.iadd, 1) := by decide +kernel
theorem dL_law_303 : decode cL_law 303 = .ok (.iaload, 1) := by decide +kernel
theorem dL_law_304 : decode cL_law 304 = .ok (.invokevirtual 36, 3) := by decide +kernel
theorem dL_law_307 : decode cL_law 307 = .ok (.aload_n 2, 1) := by decide +kernel
theorem dL_law_308 : decode cL_law 308 = .ok (.aload_n 0, 1) := by decide +kernel
theorem dL_law_309 : decode cL_law 309 = .ok (.iload_n 3, 1) := by decide +kernel
theorem dL_law_310 : decode cL_law 310 = .ok (.iconst 1, 1) := by decide +kernel
theorem dL_law_311 : decode cL_law 311 = .ok (.iadd, 1) := by decide +kernel
theorem dL_law_312 : decode cL_law 312 = .ok (.iaload, 1) := by decide +kernel
theorem dL_law_313 : decode cL_law 313 = .ok (.aload_n 0, 1) := by decide +kernel
theorem dL_law_314 : decode cL_law 314 = .ok (.iload_n 3, 1) := by decide +kernel
theorem dL_law_315 : decode cL_law 315 = .ok (.iconst 2, 1) := by decide +kernel
theorem dL_law_316 : decode cL_law 316 = .ok (.iadd, 1) := by decide +kernel
theorem dL_law_317 : decode cL_law 317 = .ok (.iaload, 1) := by decide +kernel
theorem dL_law_318 : decode cL_law 318 = .ok (.invokevirtual 39, 3) := by decide +kernel
theorem dL_law_321 : decode cL_law 321 = .ok (.if_icmp .eq 452, 3) := by decide +kernel
theorem dL_law_324 : decode cL_law 324 = .ok (.iconst 0, 1) := by decide +kernel
theorem dL_law_325 : decode cL_law 325 = .ok (.ireturn, 1) := by decide +kernel
theorem dL_law_326 : decode cL_law 326 = .ok (.aload_n 1, 1) := by decide +kernel
theorem dL_law_327 : decode cL_law 327 = .ok (.invokevirtual 40, 3) := by decide +kernel
theorem dL_law_330 : decode cL_law 330 = .ok (.aload_n 2, 1) := by decide +kernel
theorem dL_law_331 : decode cL_law 331 = .ok (.invokevirtual 44, 3) := by decide +kernel
theorem dL_law_334 : decode cL_law 334 = .ok (.if_icmp .eq 439, 3) := by decide +kernel
theorem dL_law_337 : decode cL_law 337 = .ok (.iconst 0, 1) := by decide +kernel
theorem dL_law_338 : decode cL_law 338 = .ok (.ireturn, 1) := by decide +kernel
theorem dL_law_339 : decode cL_law 339 = .ok (.aload_n 1, 1) := by decide +kernel
theorem dL_law_340 : decode cL_law 340 = .ok (.aload_n 0, 1) := by decide +kernel
theorem dL_law_341 : decode cL_law 341 = .ok (.iload_n 3, 1) := by decide +kernel
theorem dL_law_342 : decode cL_law 342 = .ok (.iconst 1, 1) := by decide +kernel
theorem dL_law_343 : decode cL_law 343 = .ok (.iadd, 1) := by decide +kernel
theorem dL_law_344 : decode cL_law 344 = .ok (.iaload, 1) := by decide +kernel
theorem dL_law_345 : decode cL_law 345 = .ok (.aload_n 0, 1) := by decide +kernel
theorem dL_law_346 : decode cL_law 346 = .ok (.iload_n 3, 1) := by decide +kernel
theorem dL_law_347 : decode cL_law 347 = .ok (.iconst 2, 1) := by decide +kernel
theorem dL_law_348 : decode cL_law 348 = .ok (.iadd, 1) := by decide +kernel
theorem dL_law_349 : decode cL_law 349 = .ok (.iaload, 1) := by decide +kernel
theorem dL_law_350 : decode cL_law 350 = .ok (.aload_n 0, 1) := by decide +kernel
theorem dL_law_351 : decode cL_law 351 = .ok (.iload_n 3, 1) := by decide +kernel
theorem dL_law_352 : decode cL_law 352 = .ok (.iconst 3, 1) := by decide +kernel
theorem dL_law_353 : decode cL_law 353 = .ok (.iadd, 1) := by decide +kernel
theorem dL_law_354 : decode cL_law 354 = .ok (.iaload, 1) := by decide +kernel
theorem dL_law_355 : decode cL_law 355 = .ok (.invokevirtual 45, 3) := by decide +kernel
theorem dL_law_358 : decode cL_law 358 = .ok (.aload_n 2, 1) := by decide +kernel
theorem dL_law_359 : decode cL_law 359 = .ok (.aload_n 0, 1) := by decide +kernel
theorem dL_law_360 : decode cL_law 360 = .ok (.iload_n 3, 1) := by decide +kernel
theorem dL_law_361 : decode cL_law 361 = .ok (.iconst 1, 1) := by decide +kernel
theorem dL_law_362 : decode cL_law 362 = .ok (.iadd, 1) := by decide +kernel
theorem dL_law_363 : decode cL_law 363 = .ok (.iaload, 1) := by decide +kernel
theorem dL_law_364 : decode cL_law 364 = .ok (.aload_n 0, 1) := by decide +kernel
theorem dL_law_365 : decode cL_law 365 = .ok (.iload_n 3, 1) := by decide +kernel
theorem dL_law_366 : decode cL_law 366 = .ok (.iconst 2, 1) := by decide +kernel
theorem dL_law_367 : decode cL_law 367 = .ok (.iadd, 1) := by decide +kernel
theorem dL_law_368 : decode cL_law 368 = .ok (.iaload, 1) := by decide +kernel
theorem dL_law_369 : decode cL_law 369 = .ok (.aload_n 0, 1) := by decide +kernel
theorem dL_law_370 : decode cL_law 370 = .ok (.iload_n 3, 1) := by decide +kernel
theorem dL_law_371 : decode cL_law 371 = .ok (.iconst 3, 1) := by decide +kernel
theorem dL_law_372 : decode cL_law 372 = .ok (.iadd, 1) := by decide +kernel
theorem dL_law_373 : decode cL_law 373 = .ok (.iaload, 1) := by decide +kernel
theorem dL_law_374 : decode cL_law 374 = .ok (.invokevirtual 48, 3) := by decide +kernel
theorem dL_law_377 : decode cL_law 377 = .ok (.if_icmp .eq 396, 3) := by decide +kernel
theorem dL_law_380 : decode cL_law 380 = .ok (.iconst 0, 1) := by decide +kernel
theorem dL_law_381 : decode cL_law 381 = .ok (.ireturn, 1) := by decide +kernel
theorem dL_law_382 : decode cL_law 382 = .ok (.aload_n 1, 1) := by decide +kernel
theorem dL_law_383 : decode cL_law 383 = .ok (.aload_n 0, 1) := by decide +kernel
theorem dL_law_384 : decode cL_law 384 = .ok (.iload_n 3, 1) := by decide +kernel
theorem dL_law_385 : decode cL_law 385 = .ok (.iconst 1, 1) := by decide +kernel
theorem dL_law_386 : decode cL_law 386 = .ok (.iadd, 1) := by decide +kernel
theorem dL_law_387 : decode cL_law 387 = .ok (.iaload, 1) := by decide +kernel
theorem dL_law_388 : decode cL_law 388 = .ok (.aload_n 0, 1) := by decide +kernel
theorem dL_law_389 : decode cL_law 389 = .ok (.iload_n 3, 1) := by decide +kernel
theorem dL_law_390 : decode cL_law 390 = .ok (.iconst 2, 1) := by decide +kernel
theorem dL_law_391 : decode cL_law 391 = .ok (.iadd, 1) := by decide +kernel
theorem dL_law_392 : decode cL_law 392 = .ok (.iaload, 1) := by decide +kernel
theorem dL_law_393 : decode cL_law 393 = .ok (.invokevirtual 49, 3) := by decide +kernel
theorem dL_law_396 : decode cL_law 396 = .ok (.aload_n 2, 1) := by decide +kernel
theorem dL_law_397 : decode cL_law 397 = .ok (.aload_n 0, 1) := by decide +kernel
theorem dL_law_398 : decode cL_law 398 = .ok (.iload_n 3, 1) := by decide +kernel
theorem dL_law_399 : decode cL_law 399 = .ok (.iconst 1, 1) := by decide +kernel
theorem dL_law_400 : decode cL_law 400 = .ok (.iadd, 1) := by decide +kernel
theorem dL_law_401 : decode cL_law 401 = .ok (.iaload, 1) := by decide +kernel
theorem dL_law_402 : decode cL_law 402 = .ok (.aload_n 0, 1) := by decide +kernel
theorem dL_law_403 : decode cL_law 403 = .ok (.iload_n 3, 1) := by decide +kernel
theorem dL_law_404 : decode cL_law 404 = .ok (.iconst 2, 1) := by decide +kernel
theorem dL_law_405 : decode cL_law 405 = .ok (.iadd, 1) := by decide +kernel
theorem dL_law_406 : decode cL_law 406 = .ok (.iaload, 1) := by decide +kernel
theorem dL_law_407 : decode cL_law 407 = .ok (.invokevirtual 52, 3) := by decide +kernel
theorem dL_law_410 : decode cL_law 410 = .ok (.if_icmp .eq 363, 3) := by decide +kernel
theorem dL_law_413 : decode cL_law 413 = .ok (.iconst 0, 1) := by decide +kernel
theorem dL_law_414 : decode cL_law 414 = .ok (.ireturn, 1) := by decide +kernel
theorem dL_law_415 : decode cL_law 415 = .ok (.aload_n 1, 1) := by decide +kernel
theorem dL_law_416 : decode cL_law 416 = .ok (.aload_n 0, 1) := by decide +kernel
theorem dL_law_417 : decode cL_law 417 = .ok (.iload_n 3, 1) := by decide +kernel
theorem dL_law_418 : decode cL_law 418 = .ok (.iconst 1, 1) := by decide +kernel
theorem dL_law_419 : decode cL_law 419 = .ok (.iadd, 1) := by decide +kernel
theorem dL_law_420 : decode cL_law 420 = .ok (.iaload, 1) := by decide +kernel
theorem dL_law_421 : decode cL_law 421 = .ok (.aload_n 0, 1) := by decide +kernel
theorem dL_law_422 : decode cL_law 422 = .ok (.iload_n 3, 1) := by decide +kernel
theorem dL_law_423 : decode cL_law 423 = .ok (.iconst 2, 1) := by decide +kernel
theorem dL_law_424 : decode cL_law 424 = .ok (.iadd, 1) := by decide +kernel
theorem dL_law_425 : decode cL_law 425 = .ok (.iaload, 1) := by decide +kernel
theorem dL_law_426 : decode cL_law 426 = .ok (.invokevirtual 53, 3) := by decide +kernel
theorem dL_law_429 : decode cL_law 429 = .ok (.aload_n 2, 1) := by decide +kernel
theorem dL_law_430 : decode cL_law 430 = .ok (.aload_n 0, 1) := by decide +kernel
theorem dL_law_431 : decode cL_law 431 = .ok (.iload_n 3, 1) := by decide +kernel
theorem dL_law_432 : decode cL_law 432 = .ok (.iconst 1, 1) := by decide +kernel
theorem dL_law_433 : decode cL_law 433 = .ok (.iadd, 1) := by decide +kernel
theorem dL_law_434 : decode cL_law 434 = .ok (.iaload, 1) := by decide +kernel
theorem dL_law_435 : decode cL_law 435 = .ok (.aload_n 0, 1) := by decide +kernel
theorem dL_law_436 : decode cL_law 436 = .ok (.iload_n 3, 1) := by decide +kernel
theorem dL_law_437 : decode cL_law 437 = .ok (.iconst 2, 1) := by decide +kernel
theorem dL_law_438 : decode cL_law 438 = .ok (.iadd, 1) := by decide +kernel
theorem dL_law_439 : decode cL_law 439 = .ok (.iaload, 1) := by decide +kernel
theorem dL_law_440 : decode cL_law 440 = .ok (.invokevirtual 56, 3) := by decide +kernel
theorem dL_law_443 : decode cL_law 443 = .ok (.if_icmp .eq 330, 3) := by decide +kernel
theorem dL_law_446 : decode cL_law 446 = .ok (.iconst 0, 1) := by decide +kernel
theorem dL_law_447 : decode cL_law 447 = .ok (.ireturn, 1) := by decide +kernel
theorem dL_law_448 : decode cL_law 448 = .ok (.aload_n 1, 1) := by decide +kernel
theorem dL_law_449 : decode cL_law 449 = .ok (.aload_n 0, 1) := by decide +kernel
theorem dL_law_450 : decode cL_law 450 = .ok (.iload_n 3, 1) := by decide +kernel
theorem dL_law_451 : decode cL_law 451 = .ok (.iconst 1, 1) := by decide +kernel
theorem dL_law_452 : decode cL_law 452 = .ok (.iadd, 1) := by decide +kernel
theorem dL_law_453 : decode cL_law 453 = .ok (.iaload, 1) := by decide +kernel
theorem dL_law_454 : decode cL_law 454 = .ok (.aload_n 0, 1) := by decide +kernel
theorem dL_law_455 : decode cL_law 455 = .ok (.iload_n 3, 1) := by decide +kernel
theorem dL_law_456 : decode cL_law 456 = .ok (.iconst 2, 1) := by decide +kernel
theorem dL_law_457 : decode cL_law 457 = .ok (.iadd, 1) := by decide +kernel
theorem dL_law_458 : decode cL_law 458 = .ok (.iaload, 1) := by decide +kernel
theorem dL_law_459 : decode cL_law 459 = .ok (.invokevirtual 57, 3) := by decide +kernel
theorem dL_law_462 : decode cL_law 462 = .ok (.aload_n 2, 1) := by decide +kernel
theorem dL_law_463 : decode cL_law 463 = .ok (.aload_n 0, 1) := by decide +kernel
theorem dL_law_464 : decode cL_law 464 = .ok (.iload_n 3, 1) := by decide +kernel
theorem dL_law_465 : decode cL_law 465 = .ok (.iconst 1, 1) := by decide +kernel
theorem dL_law_466 : decode cL_law 466 = .ok (.iadd, 1) := by decide +kernel
theorem dL_law_467 : decode cL_law 467 = .ok (.iaload, 1) := by decide +kernel
theorem dL_law_468 : decode cL_law 468 = .ok (.aload_n 0, 1) := by decide +kernel
theorem dL_law_469 : decode cL_law 469 = .ok (.iload_n 3, 1) := by decide +kernel
theorem dL_law_470 : decode cL_law 470 = .ok (.iconst 2, 1) := by decide +kernel
theorem dL_law_471 : decode cL_law 471 = .ok (.iadd, 1) := by decide +kernel
theorem dL_law_472 : decode cL_law 472 = .ok (.iaload, 1) := by decide +kernel
theorem dL_law_473 : decode cL_law 473 = .ok (.invokevirtual 60, 3) := by decide +kernel
theorem dL_law_476 : decode cL_law 476 = .ok (.if_icmp .eq 297, 3) := by decide +kernel
theorem dL_law_479 : decode cL_law 479 = .ok (.iconst 0, 1) := by decide +kernel
theorem dL_law_480 : decode cL_law 480 = .ok (.ireturn, 1) := by decide +kernel
theorem dL_law_481 : decode cL_law 481 = .ok (.aload_n 1, 1) := by decide +kernel
theorem dL_law_482 : decode cL_law 482 = .ok (.aload_n 0, 1) := by decide +kernel
theorem dL_law_483 : decode cL_law 483 = .ok (.iload_n 3, 1) := by decide +kernel
theorem dL_law_484 : decode cL_law 484 = .ok (.iconst 1, 1) := by decide +kernel
theorem dL_law_485 : decode cL_law 485 = .ok (.iadd, 1) := by decide +kernel
theorem dL_law_486 : decode cL_law 486 = .ok (.iaload, 1) := by decide +kernel
theorem dL_law_487 : decode cL_law 487 = .ok (.aload_n 0, 1) := by decide +kernel
theorem dL_law_488 : decode cL_law 488 = .ok (.iload_n 3, 1) := by decide +kernel
theorem dL_law_489 : decode cL_law 489 = .ok (.iconst 2, 1) := by decide +kernel
theorem dL_law_490 : decode cL_law 490 = .ok (.iadd, 1) := by decide +kernel
theorem dL_law_491 : decode cL_law 491 = .ok (.iaload, 1) := by decide +kernel
theorem dL_law_492 : decode cL_law 492 = .ok (.invokevirtual 61, 3) := by decide +kernel
theorem dL_law_495 : decode cL_law 495 = .ok (.aload_n 2, 1) := by decide +kernel
theorem dL_law_496 : decode cL_law 496 = .ok (.aload_n 0, 1) := by decide +kernel
theorem dL_law_497 : decode cL_law 497 = .ok (.iload_n 3, 1) := by decide +kernel
theorem dL_law_498 : decode cL_law 498 = .ok (.iconst 1, 1) := by decide +kernel
theorem dL_law_499 : decode cL_law 499 = .ok (.iadd, 1) := by decide +kernel
theorem dL_law_500 : decode cL_law 500 = .ok (.iaload, 1) := by decide +kernel
theorem dL_law_501 : decode cL_law 501 = .ok (.aload_n 0, 1) := by decide +kernel
theorem dL_law_502 : decode cL_law 502 = .ok (.iload_n 3, 1) := by decide +kernel
theorem dL_law_503 : decode cL_law 503 = .ok (.iconst 2, 1) := by decide +kernel
theorem dL_law_504 : decode cL_law 504 = .ok (.iadd, 1) := by decide +kernel
theorem dL_law_505 : decode cL_law 505 = .ok (.iaload, 1) := by decide +kernel
theorem dL_law_506 : decode cL_law 506 = .ok (.invokevirtual 64, 3) := by decide +kernel
theorem dL_law_509 : decode cL_law 509 = .ok (.if_icmp .eq 264, 3) := by decide +kernel
theorem dL_law_512 : decode cL_law 512 = .ok (.iconst 0, 1) := by decide +kernel
theorem dL_law_513 : decode cL_law 513 = .ok (.ireturn, 1) := by decide +kernel
theorem dL_law_514 : decode cL_law 514 = .ok (.aload_n 1, 1) := by decide +kernel
theorem dL_law_515 : decode cL_law 515 = .ok (.aload_n 0, 1) := by decide +kernel
theorem dL_law_516 : decode cL_law 516 = .ok (.iload_n 3, 1) := by decide +kernel
theorem dL_law_517 : decode cL_law 517 = .ok (.iconst 1, 1) := by decide +kernel
theorem dL_law_518 : decode cL_law 518 = .ok (.iadd, 1) := by decide +kernel
theorem dL_law_519 : decode cL_law 519 = .ok (.iaload, 1) := by decide +kernel
theorem dL_law_520 : decode cL_law 520 = .ok (.invokevirtual 65, 3) := by decide +kernel
theorem dL_law_523 : decode cL_law 523 = .ok (.aload_n 2, 1) := by decide +kernel
theorem dL_law_524 : decode cL_law 524 = .ok (.aload_n 0, 1) := by decide +kernel
theorem dL_law_525 : decode cL_law 525 = .ok (.iload_n 3, 1) := by decide +kernel
theorem dL_law_526 : decode cL_law 526 = .ok (.iconst 1, 1) := by decide +kernel
theorem dL_law_527 : decode cL_law 527 = .ok (.iadd, 1) := by decide +kernel
theorem dL_law_528 : decode cL_law 528 = .ok (.iaload, 1) := by decide +kernel
theorem dL_law_529 : decode cL_law 529 = .ok (.invokevirtual 68, 3) := by decide +kernel
theorem dL_law_532 : decode cL_law 532 = .ok (.if_icmp .eq 241, 3) := by decide +kernel
theorem dL_law_535 : decode cL_law 535 = .ok (.iconst 0, 1) := by decide +kernel
theorem dL_law_536 : decode cL_law 536 = .ok (.ireturn, 1) := by decide +kernel
theorem dL_law_537 : decode cL_law 537 = .ok (.aload_n 1, 1) := by decide +kernel
theorem dL_law_538 : decode cL_law 538 = .ok (.aload_n 0, 1) := by decide +kernel
theorem dL_law_539 : decode cL_law 539 = .ok (.iload_n 3, 1) := by decide +kernel
theorem dL_law_540 : decode cL_law 540 = .ok (.iconst 1, 1) := by decide +kernel
theorem dL_law_541 : decode cL_law 541 = .ok (.iadd, 1) := by decide +kernel
theorem dL_law_542 : decode cL_law 542 = .ok (.iaload, 1) := by decide +kernel
theorem dL_law_543 : decode cL_law 543 = .ok (.aload_n 0, 1) := by decide +kernel
theorem dL_law_544 : decode cL_law 544 = .ok (.iload_n 3, 1) := by decide +kernel
theorem dL_law_545 : decode cL_law 545 = .ok (.iconst 2, 1) := by decide +kernel
theorem dL_law_546 : decode cL_law 546 = .ok (.iadd, 1) := by decide +kernel
theorem dL_law_547 : decode cL_law 547 = .ok (.iaload, 1) := by decide +kernel
theorem dL_law_548 : decode cL_law 548 = .ok (.invokevirtual 69, 3) := by decide +kernel
theorem dL_law_551 : decode cL_law 551 = .ok (.aload_n 2, 1) := by decide +kernel
theorem dL_law_552 : decode cL_law 552 = .ok (.aload_n 0, 1) := by decide +kernel
theorem dL_law_553 : decode cL_law 553 = .ok (.iload_n 3, 1) := by decide +kernel
theorem dL_law_554 : decode cL_law 554 = .ok (.iconst 1, 1) := by decide +kernel
theorem dL_law_555 : decode cL_law 555 = .ok (.iadd, 1) := by decide +kernel
theorem dL_law_556 : decode cL_law 556 = .ok (.iaload, 1) := by decide +kernel
theorem dL_law_557 : decode cL_law 557 = .ok (.aload_n 0, 1) := by decide +kernel
theorem dL_law_558 : decode cL_law 558 = .ok (.iload_n 3, 1) := by decide +kernel
theorem dL_law_559 : decode cL_law 559 = .ok (.iconst 2, 1) := by decide +kernel
theorem dL_law_560 : decode cL_law 560 = .ok (.iadd, 1) := by decide +kernel
theorem dL_law_561 : decode cL_law 561 = .ok (.iaload, 1) := by decide +kernel
theorem dL_law_562 : decode cL_law 562 = .ok (.invokevirtual 72, 3) := by decide +kernel
theorem dL_law_565 : decode cL_law 565 = .ok (.if_icmp .eq 208, 3) := by decide +kernel
theorem dL_law_568 : decode cL_law 568 = .ok (.iconst 0, 1) := by decide +kernel
theorem dL_law_569 : decode cL_law 569 = .ok (.ireturn, 1) := by decide +kernel
theorem dL_law_570 : decode cL_law 570 = .ok (.aload_n 1, 1) := by decide +kernel
theorem dL_law_571 : decode cL_law 571 = .ok (.invokevirtual 73, 3) := by decide +kernel
theorem dL_law_574 : decode cL_law 574 = .ok (.aload_n 2, 1) := by decide +kernel
theorem dL_law_575 : decode cL_law 575 = .ok (.invokevirtual 76, 3) := by decide +kernel
theorem dL_law_578 : decode cL_law 578 = .ok (.if_icmp .eq 195, 3) := by decide +kernel
theorem dL_law_581 : decode cL_law 581 = .ok (.iconst 0, 1) := by decide +kernel
theorem dL_law_582 : decode cL_law 582 = .ok (.ireturn, 1) := by decide +kernel
theorem dL_law_583 : decode cL_law 583 = .ok (.aload_n 1, 1) := by decide +kernel
theorem dL_law_584 : decode cL_law 584 = .ok (.invokevirtual 77, 3) := by decide +kernel
theorem dL_law_587 : decode cL_law 587 = .ok (.aload_n 2, 1) := by decide +kernel
theorem dL_law_588 : decode cL_law 588 = .ok (.invokevirtual 80, 3) := by decide +kernel
theorem dL_law_591 : decode cL_law 591 = .ok (.if_icmp .eq 182, 3) := by decide +kernel
theorem dL_law_594 : decode cL_law 594 = .ok (.iconst 0, 1) := by decide +kernel
theorem dL_law_595 : decode cL_law 595 = .ok (.ireturn, 1) := by decide +kernel
theorem dL_law_596 : decode cL_law 596 = .ok (.aload_n 1, 1) := by decide +kernel
theorem dL_law_597 : decode cL_law 597 = .ok (.aload_n 0, 1) := by decide +kernel
theorem dL_law_598 : decode cL_law 598 = .ok (.iload_n 3, 1) := by decide +kernel
theorem dL_law_599 : decode cL_law 599 = .ok (.iconst 1, 1) := by decide +kernel
theorem dL_law_600 : decode cL_law 600 = .ok (.iadd, 1) := by decide +kernel
theorem dL_law_601 : decode cL_law 601 = .ok (.iaload, 1) := by decide +kernel
theorem dL_law_602 : decode cL_law 602 = .ok (.aload_n 0, 1) := by decide +kernel
theorem dL_law_603 : decode cL_law 603 = .ok (.iload_n 3, 1) := by decide +kernel
theorem dL_law_604 : decode cL_law 604 = .ok (.iconst 2, 1) := by decide +kernel
theorem dL_law_605 : decode cL_law 605 = .ok (.iadd, 1) := by decide +kernel
theorem dL_law_606 : decode cL_law 606 = .ok (.iaload, 1) := by decide +kernel
theorem dL_law_607 : decode cL_law 607 = .ok (.invokevirtual 81, 3) := by decide +kernel
theorem dL_law_610 : decode cL_law 610 = .ok (.aload_n 2, 1) := by decide +kernel
theorem dL_law_611 : decode cL_law 611 = .ok (.aload_n 0, 1) := by decide +kernel
theorem dL_law_612 : decode cL_law 612 = .ok (.iload_n 3, 1) := by decide +kernel
theorem dL_law_613 : decode cL_law 613 = .ok (.iconst 1, 1) := by decide +kernel
theorem dL_law_614 : decode cL_law 614 = .ok (.iadd, 1) := by decide +kernel
theorem dL_law_615 : decode cL_law 615 = .ok (.iaload, 1) := by decide +kernel
theorem dL_law_616 : decode cL_law 616 = .ok (.aload_n 0, 1) := by decide +kernel
theorem dL_law_617 : decode cL_law 617 = .ok (.iload_n 3, 1) := by decide +kernel
theorem dL_law_618 : decode cL_law 618 = .ok (.iconst 2, 1) := by decide +kernel
theorem dL_law_619 : decode cL_law 619 = .ok (.iadd, 1) := by decide +kernel
theorem dL_law_620 : decode cL_law 620 = .ok (.iaload, 1) := by decide +kernel
theorem dL_law_621 : decode cL_law 621 = .ok (.invokevirtual 84, 3) := by decide +kernel
theorem dL_law_624 : decode cL_law 624 = .ok (.if_icmp .eq 149, 3) := by decide +kernel
theorem dL_law_627 : decode cL_law 627 = .ok (.iconst 0, 1) := by decide +kernel
theorem dL_law_628 : decode cL_law 628 = .ok (.ireturn, 1) := by decide +kernel
theorem dL_law_629 : decode cL_law 629 = .ok (.aload_n 1, 1) := by decide +kernel
theorem dL_law_630 : decode cL_law 630 = .ok (.aload_n 0, 1) := by decide +kernel
theorem dL_law_631 : decode cL_law 631 = .ok (.iload_n 3, 1) := by decide +kernel
theorem dL_law_632 : decode cL_law 632 = .ok (.iconst 1, 1) := by decide +kernel
theorem dL_law_633 : decode cL_law 633 = .ok (.iadd, 1) := by decide +kernel
theorem dL_law_634 : decode cL_law 634 = .ok (.iaload, 1) := by decide +kernel
theorem dL_law_635 : decode cL_law 635 = .ok (.invokevirtual 85, 3) := by decide +kernel
theorem dL_law_638 : decode cL_law 638 = .ok (.aload_n 2, 1) := by decide +kernel
theorem dL_law_639 : decode cL_law 639 = .ok (.aload_n 0, 1) := by decide +kernel
theorem dL_law_640 : decode cL_law 640 = .ok (.iload_n 3, 1) := by decide +kernel
theorem dL_law_641 : decode cL_law 641 = .ok (.iconst 1, 1) := by decide +kernel
theorem dL_law_642 : decode cL_law 642 = .ok (.iadd, 1) := by decide +kernel
theorem dL_law_643 : decode cL_law 643 = .ok (.iaload, 1) := by decide +kernel
theorem dL_law_644 : decode cL_law 644 = .ok (.invokevirtual 88, 3) := by decide +kernel
theorem dL_law_647 : decode cL_law 647 = .ok (.if_icmp .eq 126, 3) := by decide +kernel
theorem dL_law_650 : decode cL_law 650 = .ok (.iconst 0, 1) := by decide +kernel
theorem dL_law_651 : decode cL_law 651 = .ok (.ireturn, 1) := by decide +kernel
theorem dL_law_652 : decode cL_law 652 = .ok (.aload_n 1, 1) := by decide +kernel
theorem dL_law_653 : decode cL_law 653 = .ok (.invokevirtual 89, 3) := by decide +kernel
theorem dL_law_656 : decode cL_law 656 = .ok (.aload_n 2, 1) := by decide +kernel
theorem dL_law_657 : decode cL_law 657 = .ok (.invokevirtual 92, 3) := by decide +kernel
theorem dL_law_660 : decode cL_law 660 = .ok (.if_icmp .eq 113, 3) := by decide +kernel
theorem dL_law_663 : decode cL_law 663 = .ok (.iconst 0, 1) := by decide +kernel
theorem dL_law_664 : decode cL_law 664 = .ok (.ireturn, 1) := by decide +kernel
theorem dL_law_665 : decode cL_law 665 = .ok (.aload_n 1, 1) := by decide +kernel
theorem dL_law_666 : decode cL_law 666 = .ok (.aload_n 0, 1) := by decide +kernel
theorem dL_law_667 : decode cL_law 667 = .ok (.iload_n 3, 1) := by decide +kernel
theorem dL_law_668 : decode cL_law 668 = .ok (.iconst 1, 1) := by decide +kernel
theorem dL_law_669 : decode cL_law 669 = .ok (.iadd, 1) := by decide +kernel
theorem dL_law_670 : decode cL_law 670 = .ok (.iaload, 1) := by decide +kernel
theorem dL_law_671 : decode cL_law 671 = .ok (.invokevirtual 93, 3) := by decide +kernel
theorem dL_law_674 : decode cL_law 674 = .ok (.aload_n 2, 1) := by decide +kernel
theorem dL_law_675 : decode cL_law 675 = .ok (.aload_n 0, 1) := by decide +kernel
theorem dL_law_676 : decode cL_law 676 = .ok (.iload_n 3, 1) := by decide +kernel
theorem dL_law_677 : decode cL_law 677 = .ok (.iconst 1, 1) := by decide +kernel
theorem dL_law_678 : decode cL_law 678 = .ok (.iadd, 1) := by decide +kernel
theorem dL_law_679 : decode cL_law 679 = .ok (.iaload, 1) := by decide +kernel
theorem dL_law_680 : decode cL_law 680 = .ok (.invokevirtual 96, 3) := by decide +kernel
theorem dL_law_683 : decode cL_law 683 = .ok (.if_icmp .eq 90, 3) := by decide +kernel
theorem dL_law_686 : decode cL_law 686 = .ok (.iconst 0, 1) := by decide +kernel
theorem dL_law_687 : decode cL_law 687 = .ok (.ireturn, 1) := by decide +kernel
theorem dL_law_688 : decode cL_law 688 = .ok (.aload_n 1, 1) := by decide +kernel
theorem dL_law_689 : decode cL_law 689 = .ok (.invokevirtual 97, 3) := by decide +kernel
theorem dL_law_692 : decode cL_law 692 = .ok (.aload_n 2, 1) := by decide +kernel
theorem dL_law_693 : decode cL_law 693 = .ok (.invokevirtual 100, 3) := by decide +kernel
theorem dL_law_696 : decode cL_law 696 = .ok (.if_icmp .eq 77, 3) := by decide +kernel
theorem dL_law_699 : decode cL_law 699 = .ok (.iconst 0, 1) := by decide +kernel
theorem dL_law_700 : decode cL_law 700 = .ok (.ireturn, 1) := by decide +kernel
theorem dL_law_701 : decode cL_law 701 = .ok (.aload_n 1, 1) := by decide +kernel
theorem dL_law_702 : decode cL_law 702 = .ok (.aload_n 0, 1) := by decide +kernel
theorem dL_law_703 : decode cL_law 703 = .ok (.iload_n 3, 1) := by decide +kernel
theorem dL_law_704 : decode cL_law 704 = .ok (.iconst 1, 1) := by decide +kernel
theorem dL_law_705 : decode cL_law 705 = .ok (.iadd, 1) := by decide +kernel
theorem dL_law_706 : decode cL_law 706 = .ok (.iaload, 1) := by decide +kernel
theorem dL_law_707 : decode cL_law 707 = .ok (.invokevirtual 101, 3) := by decide +kernel
theorem dL_law_710 : decode cL_law 710 = .ok (.aload_n 2, 1) := by decide +kernel
theorem dL_law_711 : decode cL_law 711 = .ok (.aload_n 0, 1) := by decide +kernel
theorem dL_law_712 : decode cL_law 712 = .ok (.iload_n 3, 1) := by decide +kernel
theorem dL_law_713 : decode cL_law 713 = .ok (.iconst 1, 1) := by decide +kernel
theorem dL_law_714 : decode cL_law 714 = .ok (.iadd, 1) := by decide +kernel
theorem dL_law_715 : decode cL_law 715 = .ok (.iaload, 1) := by decide +kernel
theorem dL_law_716 : decode cL_law 716 = .ok (.invokevirtual 104, 3) := by decide +kernel
theorem dL_law_719 : decode cL_law 719 = .ok (.if_icmp .eq 54, 3) := by decide +kernel
theorem dL_law_722 : decode cL_law 722 = .ok (.iconst 0, 1) := by decide +kernel
theorem dL_law_723 : decode cL_law 723 = .ok (.ireturn, 1) := by decide +kernel
theorem dL_law_724 : decode cL_law 724 = .ok (.aload_n 1, 1) := by decide +kernel
theorem dL_law_725 : decode cL_law 725 = .ok (.invokevirtual 105, 3) := by decide +kernel
theorem dL_law_728 : decode cL_law 728 = .ok (.aload_n 2, 1) := by decide +kernel
theorem dL_law_729 : decode cL_law 729 = .ok (.invokevirtual 108, 3) := by decide +kernel
theorem dL_law_732 : decode cL_law 732 = .ok (.if_icmp .eq 41, 3) := by decide +kernel
theorem dL_law_735 : decode cL_law 735 = .ok (.iconst 0, 1) := by decide +kernel
theorem dL_law_736 : decode cL_law 736 = .ok (.ireturn, 1) := by decide +kernel
theorem dL_law_737 : decode cL_law 737 = .ok (.aload_n 1, 1) := by decide +kernel
theorem dL_law_738 : decode cL_law 738 = .ok (.aload_n 0, 1) := by decide +kernel
theorem dL_law_739 : decode cL_law 739 = .ok (.iload_n 3, 1) := by decide +kernel
theorem dL_law_740 : decode cL_law 740 = .ok (.iconst 1, 1) := by decide +kernel
theorem dL_law_741 : decode cL_law 741 = .ok (.iadd, 1) := by decide +kernel
theorem dL_law_742 : decode cL_law 742 = .ok (.iaload, 1) := by decide +kernel
theorem dL_law_743 : decode cL_law 743 = .ok (.invokevirtual 109, 3) := by decide +kernel
theorem dL_law_746 : decode cL_law 746 = .ok (.aload_n 2, 1) := by decide +kernel
theorem dL_law_747 : decode cL_law 747 = .ok (.aload_n 0, 1) := by decide +kernel
theorem dL_law_748 : decode cL_law 748 = .ok (.iload_n 3, 1) := by decide +kernel
theorem dL_law_749 : decode cL_law 749 = .ok (.iconst 1, 1) := by decide +kernel
theorem dL_law_750 : decode cL_law 750 = .ok (.iadd, 1) := by decide +kernel
theorem dL_law_751 : decode cL_law 751 = .ok (.iaload, 1) := by decide +kernel
theorem dL_law_752 : decode cL_law 752 = .ok (.invokevirtual 112, 3) := by decide +kernel
theorem dL_law_755 : decode cL_law 755 = .ok (.if_icmp .eq 18, 3) := by decide +kernel
theorem dL_law_758 : decode cL_law 758 = .ok (.iconst 0, 1) := by decide +kernel
theorem dL_law_759 : decode cL_law 759 = .ok (.ireturn, 1) := by decide +kernel
theorem dL_law_760 : decode cL_law 760 = .ok (.aload_n 1, 1) := by decide +kernel
theorem dL_law_761 : decode cL_law 761 = .ok (.invokevirtual 113, 3) := by decide +kernel
theorem dL_law_764 : decode cL_law 764 = .ok (.aload_n 2, 1) := by decide +kernel
theorem dL_law_765 : decode cL_law 765 = .ok (.invokevirtual 116, 3) := by decide +kernel
theorem dL_law_768 : decode cL_law 768 = .ok (.if_icmp .eq 5, 3) := by decide +kernel
theorem dL_law_771 : decode cL_law 771 = .ok (.iconst 0, 1) := by decide +kernel
theorem dL_law_772 : decode cL_law 772 = .ok (.ireturn, 1) := by decide +kernel
theorem dL_law_773 : decode cL_law 773 = .ok (.iinc 3 4, 3) := by decide +kernel
theorem dL_law_776 : decode cL_law 776 = .ok (.goto (-758), 3) := by decide +kernel
theorem dL_law_779 : decode cL_law 779 = .ok (.iconst 1, 1) := by decide +kernel
theorem dL_law_780 : decode cL_law 780 = .ok (.ireturn, 1) := by decide +kernel
abbrev vwCl : List vw_C := [(RX0, TX0, 5), (RX1, TX1, 4), (RX2, TX2, 3), (RX3, TX3, 11), (RX4, TX4, 4), (RX5, TX5, 4), (RX6, TX6, 8), (RX7, TX7, 19)]
end
section
/-! worlds as lists of blocks; focus and join by permutation; calls and returns over one list of words -/
def lw_all : List Cond := lw_tbl.filter goodWord
theorem all_tbl {w : Cond} (h : w ∈ lw_all) : w ∈ lw_tbl := (List.mem_filter.mp h).1
theorem all_good {w : Cond} (h : w ∈ lw_all) : goodWord w = true := (List.mem_filter.mp h).2
theorem in_all {w : Cond} (i : Nat) (h : lw_tbl[i]? = some w) (g : goodWord w = true) : w ∈ lw_all := List.mem_filter.mpr ⟨List.mem_of_getElem? h, g⟩
def WS (y : MethodName) (cc : ByteArray) (n : Nat) (ret : Option FieldType) : List Cond := .code y cc n ret :: lw_all
theorem good_all {y : MethodName} {cc : ByteArray} {n : Nat} {ret : Option FieldType} (h : Cond.code y cc n ret ∈ lw_all) : GoodIn lw_all (WS y cc n ret) := fun w hw => by
  rcases List.mem_cons.mp hw with rfl | hw
  · exact ⟨h, good_of_word (all_good h)⟩
  · exact ⟨hw, good_of_word (all_good hw)⟩
theorem va_P_iff {D : va_G} {cl : List vw_C} {ws : va_W} {H : Heap} : va_P D cl ws H ↔ ∀ q, q ∈ ws → va_at D cl q H :=
  ⟨fun h q hq => by obtain ⟨k, hk⟩ := List.getElem?_of_mem hq; exact h k q hk, fun h k q hk => h q (List.mem_of_getElem? hk)⟩
theorem va_D_iff {A : Nat → Prop} {ws : va_W} : va_D A ws ↔ (ws.map (fun q => q.1)).Nodup ∧ ∀ q, q ∈ ws → A q.1 := by
  constructor
  · intro h
    refine ⟨?_, fun q hq => by obtain ⟨k, hk⟩ := List.getElem?_of_mem hq; exact h.2 k q hk⟩
    rw [List.nodup_iff_pairwise_ne, List.pairwise_iff_getElem]
    intro i j hi hj hij he
    have hi' : i < ws.length := by simpa using hi
    have hj' : j < ws.length := by simpa using hj
    rw [List.getElem_map, List.getElem_map] at he
    have := h.1 i j ws[i] ws[j] (List.getElem?_eq_getElem hi') (List.getElem?_eq_getElem hj') he
    omega
  · intro ⟨h1, h2⟩
    refine ⟨?_, fun k q hk => h2 q (List.mem_of_getElem? hk)⟩
    intro i j p q hi hj he
    rw [List.nodup_iff_pairwise_ne, List.pairwise_iff_getElem] at h1
    obtain ⟨hi', ei⟩ := List.getElem?_eq_some_iff.mp hi
    obtain ⟨hj', ej⟩ := List.getElem?_eq_some_iff.mp hj
    have hi2 : i < (ws.map (fun q => q.1)).length := by simpa using hi'
    have hj2 : j < (ws.map (fun q => q.1)).length := by simpa using hj'
    rcases Nat.lt_trichotomy i j with h | h | h
    · exact absurd (by rw [List.getElem_map, List.getElem_map, ei, ej]; exact he) (h1 i j hi2 hj2 h)
    · exact h
    · exact absurd (by rw [List.getElem_map, List.getElem_map, ei, ej]; exact he.symm) (h1 j i hj2 hi2 h)
theorem va_P_perm {D : va_G} {cl : List vw_C} {ws ws' : va_W} {H : Heap} (h : ws.Perm ws') (hP : va_P D cl ws H) : va_P D cl ws' H :=
  va_P_iff.mpr fun q hq => va_P_iff.mp hP q (h.mem_iff.mpr hq)
theorem va_D_perm {A : Nat → Prop} {ws ws' : va_W} (h : ws.Perm ws') (hD : va_D A ws) : va_D A ws' := by
  obtain ⟨h1, h2⟩ := va_D_iff.mp hD
  exact va_D_iff.mpr ⟨((h.map _).nodup_iff).mp h1, fun q hq => h2 q (h.mem_iff.mpr hq)⟩
theorem va_P_left {D : va_G} {cl : List vw_C} {a b : va_W} {H : Heap} (h : va_P D cl (a ++ b) H) : va_P D cl a H := va_P_iff.mpr fun q hq => va_P_iff.mp h q (List.mem_append_left _ hq)
theorem va_D_left {A : Nat → Prop} {a b : va_W} (h : va_D A (a ++ b)) : va_D A a := by
  obtain ⟨h1, h2⟩ := va_D_iff.mp h
  rw [List.map_append, List.nodup_append] at h1
  exact va_D_iff.mpr ⟨h1.1, fun q hq => h2 q (List.mem_append_left _ hq)⟩
theorem join_core {D : va_G} {cl : List vw_C} {A0 : Nat → Prop} {W0 b r b' W1 : va_W} {H H1 : Heap} (hP : va_P D cl W0 H) (hD : va_D A0 W0) (hp : W0.Perm (b ++ r)) (hp' : W1.Perm (b' ++ r)) (hk : ∀ q : Nat, q < H.size → ¬ va_A b H.size q → H1[q]? = H[q]?) (hF : ∀ q, va_A b H.size q → A0 q) (hP1 : va_P D cl b' H1) (hD1 : va_D (va_A b H.size) b') : va_P D cl W1 H1 ∧ va_D A0 W1 := by
  have hP' := va_P_iff.mp hP
  obtain ⟨hn, hA⟩ := va_D_iff.mp hD
  have hn2 : ((b ++ r).map (fun q => q.1)).Nodup := ((hp.map _).nodup_iff).mp hn
  rw [List.map_append, List.nodup_append] at hn2
  have hP1' := va_P_iff.mp hP1
  obtain ⟨hn1, hA1⟩ := va_D_iff.mp hD1
  have hr : ∀ q, q ∈ r → q ∈ W0 := fun q h => hp.mem_iff.mpr (List.mem_append_right _ h)
  have hout : ∀ q, q ∈ r → ¬ va_A b H.size q.1 := by
    intro q hq h
    rcases h with ⟨k, e, hk1⟩ | h
    · exact hn2.2.2 q.1 (List.mem_map.mpr ⟨(q.1, e), List.mem_of_getElem? hk1, rfl⟩) q.1 (List.mem_map.mpr ⟨q, hq, rfl⟩) rfl
    · have := (hP' q (hr q hq)).lt
      omega
  constructor
  · refine va_P_iff.mpr fun q hq => ?_
    rcases List.mem_append.mp (hp'.mem_iff.mp hq) with h | h
    · exact hP1' q h
    · exact (hP' q (hr q h)).kept (hk q.1 (hP' q (hr q h)).lt (hout q h))
  · refine va_D_iff.mpr ⟨((hp'.map _).nodup_iff).mpr ?_, fun q hq => ?_⟩
    · rw [List.map_append, List.nodup_append]
      refine ⟨hn1, hn2.2.1, fun x hx y hy hxy => ?_⟩
      obtain ⟨q, hq, rfl⟩ := List.mem_map.mp hx
      obtain ⟨z, hz, rfl⟩ := List.mem_map.mp hy
      exact hout z hz (by rw [← hxy]; exact hA1 q hq)
    · rcases List.mem_append.mp (hp'.mem_iff.mp hq) with h | h
      · exact hF _ (hA1 q h)
      · exact hA q (hr q h)
/-- of a world a part: what the part becomes, the world becomes, the rest unchanged -/
def Foc (W0 b W1 b' : va_W) : Prop := ∃ r, W0.Perm (b ++ r) ∧ W1.Perm (b' ++ r)
def FocU {S : Type} (W0 b : va_W) (W1 b' : S → va_W) : Prop := ∃ r, W0.Perm (b ++ r) ∧ ∀ u, (W1 u).Perm (b' u ++ r)
theorem Foc.all {W0 W1 : va_W} : Foc W0 W0 W1 W1 := ⟨[], by rw [List.append_nil], by rw [List.append_nil]⟩
theorem Foc.nil {W0 : va_W} : Foc W0 [] W0 [] := ⟨W0, List.Perm.refl _, List.Perm.refl _⟩
theorem Foc.trans {W0 b c W1 b' c' : va_W} (h1 : Foc W0 b W1 b') (h2 : Foc b c b' c') : Foc W0 c W1 c' := by
  obtain ⟨r, p1, p2⟩ := h1
  obtain ⟨q, p3, p4⟩ := h2
  refine ⟨q ++ r, p1.trans ?_, p2.trans ?_⟩
  · rw [← List.append_assoc]; exact p3.append_right r
  · rw [← List.append_assoc]; exact p4.append_right r
theorem FocU.trans {S : Type} {W0 b c : va_W} {W1 b' c' : S → va_W} (h1 : FocU W0 b W1 b') (h2 : FocU b c b' c') : FocU W0 c W1 c' := by
  obtain ⟨r, p1, p2⟩ := h1
  obtain ⟨q, p3, p4⟩ := h2
  refine ⟨q ++ r, p1.trans ?_, fun u => (p2 u).trans ?_⟩
  · rw [← List.append_assoc]; exact p3.append_right r
  · rw [← List.append_assoc]; exact (p4 u).append_right r
theorem FocU.of {W0 b W1 b' : va_W} (h : Foc W0 b W1 b') : FocU (S := Unit) W0 b (fun _ => W1) (fun _ => b') := by
  obtain ⟨r, p1, p2⟩ := h
  exact ⟨r, p1, fun _ => p2⟩
theorem FocU.all {S : Type} {W0 : va_W} {W1 : S → va_W} : FocU W0 W0 W1 W1 := ⟨[], by rw [List.append_nil], fun u => by rw [List.append_nil]⟩
theorem perm_erase {α : Type} : ∀ (l : List α) (i : Nat) (x : α), l[i]? = some x → l.Perm (x :: l.eraseIdx i)
  | [], i, x, h => by cases h
  | a :: l, 0, x, h => by cases h; exact List.Perm.refl _
  | a :: l, i + 1, x, h => by
    rw [List.getElem?_cons_succ] at h
    rw [List.eraseIdx_cons_succ]
    exact ((perm_erase l i x h).cons a).trans (List.Perm.swap x a _)
theorem FocU.at1 {S : Type} {bl : List va_W} {bl' : S → List va_W} (i : Nat) {b : va_W} {b' : S → va_W} (h : bl[i]? = some b) (h' : ∀ u, (bl' u)[i]? = some (b' u)) (hr : ∀ u, bl.eraseIdx i = (bl' u).eraseIdx i) : FocU bl.flatten b (fun u => (bl' u).flatten) b' := by
  refine ⟨(bl.eraseIdx i).flatten, (perm_erase bl i b h).flatten, fun u => ?_⟩
  rw [hr u]
  exact (perm_erase (bl' u) i (b' u) (h' u)).flatten
theorem FocU.at2 {S : Type} {bl : List va_W} {bl' : S → List va_W} (i j : Nat) {b c : va_W} {b' c' : S → va_W} (h : bl[i]? = some b) (g : (bl.eraseIdx i)[j]? = some c) (h' : ∀ u, (bl' u)[i]? = some (b' u)) (g' : ∀ u, ((bl' u).eraseIdx i)[j]? = some (c' u)) (hr : ∀ u, (bl.eraseIdx i).eraseIdx j = ((bl' u).eraseIdx i).eraseIdx j) : FocU bl.flatten ([b, c] : List va_W).flatten (fun u => (bl' u).flatten) (fun u => ([b' u, c' u] : List va_W).flatten) := by
  refine ⟨((bl.eraseIdx i).eraseIdx j).flatten, ?_, fun u => ?_⟩
  · rw [← List.flatten_append]
    exact ((perm_erase bl i b h).trans ((perm_erase _ j c g).cons b)).flatten
  · rw [hr u, ← List.flatten_append]
    exact ((perm_erase (bl' u) i (b' u) (h' u)).trans ((perm_erase _ j (c' u) (g' u)).cons (b' u))).flatten
theorem Foc.at1 {bl bl' : List va_W} (i : Nat) {b b' : va_W} (h : bl[i]? = some b) (h' : bl'[i]? = some b') (hr : bl.eraseIdx i = bl'.eraseIdx i) : Foc bl.flatten b bl'.flatten b' := by
  refine ⟨(bl.eraseIdx i).flatten, (perm_erase bl i b h).flatten, ?_⟩
  rw [hr]
  exact (perm_erase bl' i b' h').flatten
theorem Foc.at2 {bl bl' : List va_W} (i j : Nat) {b c b' c' : va_W} (h : bl[i]? = some b) (g : (bl.eraseIdx i)[j]? = some c) (h' : bl'[i]? = some b') (g' : (bl'.eraseIdx i)[j]? = some c') (hr : (bl.eraseIdx i).eraseIdx j = (bl'.eraseIdx i).eraseIdx j) : Foc bl.flatten ([b, c] : List va_W).flatten bl'.flatten ([b', c'] : List va_W).flatten := by
  refine ⟨((bl.eraseIdx i).eraseIdx j).flatten, ?_, ?_⟩
  · rw [← List.flatten_append]
    exact ((perm_erase bl i b h).trans ((perm_erase _ j c g).cons b)).flatten
  · rw [hr, ← List.flatten_append]
    exact ((perm_erase bl' i b' h').trans ((perm_erase _ j c' g').cons b')).flatten
theorem Foc.cell {b b' : va_W} (i : Nat) {x x' : Nat × va_E} (h : b[i]? = some x) (h' : b'[i]? = some x') (hr : b.eraseIdx i = b'.eraseIdx i) : Foc b [x] b' [x'] := by
  refine ⟨b.eraseIdx i, perm_erase b i x h, ?_⟩
  rw [hr]
  exact perm_erase b' i x' h'
theorem m_fl {bl : List va_W} {b : va_W} {x : Nat × va_E} (i : Nat) (h : bl[i]? = some b) (hx : x ∈ b) : x ∈ bl.flatten := List.mem_flatten_of_mem (List.mem_of_getElem? h) hx
theorem m_at {b : va_W} {x : Nat × va_E} (i : Nat) (h : b[i]? = some x) : x ∈ b := List.mem_of_getElem? h
/-- the classes of arrays ride in the same table as the classes of objects -/
abbrev TY (D : va_G) : List (ClassId × FieldType) := [(D.1 100, .int), (D.1 101, .char), (D.1 102, .array .int), (D.1 103, .object RX3)]
def k_first : List Int32 := [0, 0, 0, 1, 1, 1, 0]
def k_last : List Int32 := [89, 89, 35, 7, 49, 18, 153]
def k_least : List Int32 := [0, 0, 4]
def k_most : List Int32 := [8, 1, 60]
def k_days : List Int32 := [0, 31, 59, 90, 120, 151, 181, 212, 243, 273, 304, 334]
abbrev kf (l : List Int32) (j : Nat) : Int32 := l.getD j 0
def STn (n : String) (l : List Int32) (A : Nat → Prop) (U : State) (H : Heap) : Prop := ∃ t : Nat, va_Z RX6 n "[I" (.ref t) A U H ∧ va_T .int t l.length (fun j => .int (kf l j)) A U H
def ST (A : Nat → Prop) (U : State) (H : Heap) : Prop := STn "FIRST_VALUE" k_first A U H ∧ STn "LAST_VALUE" k_last A U H ∧ STn "LEAST_SETTING" k_least A U H ∧ STn "MOST_SETTING" k_most A U H ∧ STn "DAYS_AHEAD_OF_MONTH" k_days A U H ∧
  va_Nw (.fieldLinkNest RX5 24 RX6 "FIRST_VALUE" "[I" RX6) U ∧ va_Nw (.fieldLinkNest RX5 33 RX6 "LAST_VALUE" "[I" RX6) U ∧ va_Nw (.fieldLinkNest RX5 69 RX6 "DAYS_AHEAD_OF_MONTH" "[I" RX6) U ∧
  va_Nw (.methodLinkNest RX0 36 yX6_bitOf RX6) U ∧ va_Nw (.methodLinkNest RX5 47 yX6_bitOf RX6) U ∧ va_Nw (.methodLinkNest RX5 66 yX6_numberOf RX6) U
theorem STn.go {n : String} {l : List Int32} {A B : Nat → Prop} {u U : State} {H H1 : Heap} (hvm : u.vm.Alike U.vm) (hq : ∀ a : Nat, a < H.size → ¬ A a → H1[a]? = H[a]?) (hAB : ∀ q, B q → A q) (h : STn n l A u H) : STn n l B U H1 := by
  obtain ⟨t, h1, h2⟩ := h
  exact ⟨t, ((h1.moved hvm).kept hq).narrow hAB, ((h2.moved hvm).kept hq).narrow hAB⟩
theorem ST.warm {A B : Nat → Prop} {u U : State} {H H1 : Heap} (hW : u.WarmedH U.vm) (hq : ∀ a : Nat, a < H.size → ¬ A a → H1[a]? = H[a]?) (hAB : ∀ q, B q → A q) (h : ST A u H) : ST B U H1 := by
  obtain ⟨h1, h2, h3, h4, h5, n1, n2, n3, n4, n5, n6⟩ := h
  exact ⟨h1.go hW.alike hq hAB, h2.go hW.alike hq hAB, h3.go hW.alike hq hAB, h4.go hW.alike hq hAB, h5.go hW.alike hq hAB, n1.warmF hW, n2.warmF hW, n3.warmF hW, n4.warmM hW, n5.warmM hW, n6.warmM hW⟩
theorem ST.same {A : Nat → Prop} {u U : State} {H : Heap} (e : u.vm = U.vm) (h : ST A u H) : ST A U H := by
  obtain ⟨h1, h2, h3, h4, h5, n1, n2, n3, n4, n5, n6⟩ := h
  have hvm : u.vm.Alike U.vm := by rw [e]; exact Vm.Alike.refl U.vm
  have hq : ∀ a : Nat, a < H.size → ¬ A a → H[a]? = H[a]? := fun _ _ _ => rfl
  exact ⟨h1.go hvm hq (fun _ h => h), h2.go hvm hq (fun _ h => h), h3.go hvm hq (fun _ h => h), h4.go hvm hq (fun _ h => h), h5.go hvm hq (fun _ h => h), n1.same rfl e, n2.same rfl e, n3.same rfl e, n4.same rfl e, n5.same rfl e, n6.same rfl e⟩
def PreW (D : va_G) (sz : Nat) (ws : va_W) (U : State) : Prop := U.heap.size = sz ∧ va_P D vwCl ws U.heap ∧ va_K D vwCl (TY D) U ∧ va_D (fun _ => True) ws ∧ ST (va_A ws sz) U U.heap
def EndW (D : va_G) (A : Nat → Prop) (ws : va_W) (t : State) : Prop := va_P D vwCl ws t.heap ∧ va_D A ws
theorem PreW.blind {D : va_G} {sz : Nat} {ws : va_W} {As : List Value} : FrameBlind (va_Pc As (PreW D sz ws)) := by
  intro a U g mk q
  obtain ⟨q0, q1, qP, qK, qD, qS⟩ := q
  exact ⟨q0, q1, qP, va_K.moved (u := U) (U := U.calling g mk a) (Vm.Alike.refl U.vm) qK, qD, ST.same (u := U) (U := U.calling g mk a) rfl qS⟩
def Wd (D : va_G) (A : Nat → Prop) (H0 H : Heap) (locs : List Loc) (ws : va_W) : Prop := va_P D vwCl ws H ∧ va_D A ws ∧ va_S A H0 H locs
def CX (D : va_G) (p : Program) (m : MethodId) (c : Code) (cc : ByteArray) (nL : Nat) (s : State) (args : Array Value) (own : String) (A : Nat → Prop) : Prop :=
  CallFix p m c cc nL s args lw_all own ∧ va_K D vwCl (TY D) s ∧ ST A s s.heap ∧ (∀ q : Nat, s.heap.size ≤ q → A q)
theorem Wd.perm {D : va_G} {A : Nat → Prop} {H0 H : Heap} {locs : List Loc} {ws ws' : va_W} (h : ws.Perm ws') (w : Wd D A H0 H locs ws) : Wd D A H0 H locs ws' := ⟨va_P_perm h w.1, va_D_perm h w.2.1, w.2.2⟩
theorem Wd.call {D : va_G} {p : Program} {m : MethodId} {c : Code} {cc : ByteArray} {nL : Nat} {s : State} {args : Array Value} {own : String} {A : Nat → Prop} {H : Heap} {locs : List Loc} {ws b r : va_W} (X : CX D p m c cc nL s args own A) (w : Wd D A s.heap H locs ws) (hp : ws.Perm (b ++ r)) :
    (∀ q, va_A b H.size q → A q) ∧ ∀ U : State, U.heap = H → s.WarmedH U.vm → PreW D H.size b U := by
  obtain ⟨wP, wD, wS⟩ := w
  have hPb := va_P_left (va_P_perm hp wP)
  have hDb := va_D_left (va_D_perm hp wD)
  have hf : ∀ q, va_A b H.size q → A q := by
    intro q h
    rcases h with ⟨k, e, h⟩ | h
    · exact hDb.2 k (q, e) h
    · exact X.2.2.2 q (Nat.le_trans wS.1 h)
  refine ⟨hf, fun U hU hW => ⟨by rw [hU], by rw [hU]; exact hPb, va_K.moved hW.alike X.2.1, hDb.weaken (fun _ _ _ _ => trivial), ?_⟩⟩
  rw [hU]
  exact ST.warm hW wS.2.1 hf X.2.2.1
end
section
/-! one row an instruction over a world of blocks -/
section RW
variable {p : Program} {l : Launch} {e : Env} {R : Room} {s : State} {m : MethodId} {args : Array Value} {below : List Frame} {meth : Method} {c : Code} {H : Heap} {locs : List Loc} {cells slots : Nat} {Q : State → Prop}
variable {cc : ByteArray} {nL pc : Nat} {ls : Array Slot} {rest st0 : List Value} {D : va_G} {A : Nat → Prop} {a : Nat} {ws ws' : va_W} {own : String}
/-- an instance field as an instruction of a class names it -/
def FL (own : String) (index ci k : Nat) : Prop := ∃ (C : String) (T : u_T) (N : Nat), (∀ w ∈ u_ws C T N, w ∈ lw_all) ∧ vwCl[ci]? = some (C, T, N) ∧ k < N ∧ Cond.fieldLink own index (T k).1 (T k).2.1 (T k).2.2.1 ∈ lw_all
/-- what a put of it wants beside -/
def FP (own : String) (index ci k : Nat) (ty : FieldType) (fin : Bool) : Prop := ∃ (C : String) (T : u_T) (N : Nat) (ty0 : Nat → FieldType), (∀ w ∈ u_ws C T N, w ∈ lw_all) ∧ vwCl[ci]? = some (C, T, N) ∧ k < N ∧ Cond.fieldLink own index (T k).1 (T k).2.1 (T k).2.2.1 ∈ lw_all ∧ (∀ k, k < N → parseFieldDescriptor (T k).2.2.1 = some (ty0 k)) ∧ (∀ a, a < N → ∀ b, b < N → a ≠ b → (T a).2.1 ≠ (T b).2.1) ∧ (T k).2.2.2 = fin ∧ parseFieldDescriptor (T k).2.2.1 = some ty ∧ (fin = true → (T k).1 = own)
theorem r_get (X : CX D p m c cc nL s args own A) (w : Wd D A s.heap H locs ws) {index ci k : Nat} {fs : List Value} {v : Value} (F : FL own index ci k) (hm : (a, .inr (ci, fs)) ∈ ws) (hv : fs[k]? = some v) (hdg : decode cc pc = .ok (.getfield index, 3))
    (kk : W p l e R s m args below meth c H locs cells slots Q (F0 m (pc + 3) ls (v :: rest))) : W p l e R s m args below meth c H locs cells slots Q (F0 m pc ls (.ref a :: rest)) := by
  obtain ⟨⟨hx, hb, hml, hown, hts⟩, hK, hST, hA⟩ := X
  obtain ⟨C, T, N, f1, f2, f3, f4⟩ := F
  obtain ⟨q0, hq⟩ := List.getElem?_of_mem hm
  exact va_get hx hb hts f1 hown hK w.1 q0 hq f2 k f3 (hts _ f4) (fun _ h => h) hv hdg kk
theorem r_put (X : CX D p m c cc nL s args own A) (w : Wd D A s.heap H locs ws) {index ci k : Nat} {fs : List Value} {v : Value} {ty : FieldType} (F : FP own index ci k ty false) (hn : narrow ty v = v) (hfit : fits ty v = true) (hl : k < fs.length) (hF : Foc ws [(a, .inr (ci, fs))] ws' [(a, .inr (ci, fs.set k v))]) (hdg : decode cc pc = .ok (.putfield index, 3))
    (kk : ∀ (H1 : Heap) (locs1 : List Loc), Wd D A s.heap H1 locs1 ws' → W p l e R s m args below meth c H1 locs1 cells slots Q (F0 m (pc + 3) ls rest)) : W p l e R s m args below meth c H locs cells slots Q (F0 m pc ls (v :: .ref a :: rest)) := by
  obtain ⟨⟨hx, hb, hml, hown, hts⟩, hK, hST, hA⟩ := X
  obtain ⟨C, T, N, ty0, f1, f2, f3, f4, f5, f6, f7, f8, -⟩ := F
  obtain ⟨r, p1, p2⟩ := hF
  have w' := w.perm p1
  exact va_put hx hb hts f1 ty0 f5 f6 hown hK w'.1 w'.2.1 w'.2.2 0 rfl f2 k f3 (hts _ f4) (fun _ h => h) f7 f8 hn hfit hl hdg (fun H1 locs1 hP hD hS => kk H1 locs1 (Wd.perm p2.symm ⟨hP, hD, hS⟩))
theorem r_puti (X : CX D p m c cc nL s args own A) (w : Wd D A s.heap H locs ws) {index ci k : Nat} {fs : List Value} {x : Int32} (F : FP own index ci k .int false) (hl : k < fs.length) (hF : Foc ws [(a, .inr (ci, fs))] ws' [(a, .inr (ci, fs.set k (.int x)))]) (hdg : decode cc pc = .ok (.putfield index, 3))
    (kk : ∀ (H1 : Heap) (locs1 : List Loc), Wd D A s.heap H1 locs1 ws' → W p l e R s m args below meth c H1 locs1 cells slots Q (F0 m (pc + 3) ls rest)) : W p l e R s m args below meth c H locs cells slots Q (F0 m pc ls (.int x :: .ref a :: rest)) := r_put X w F rfl rfl hl hF hdg kk
theorem r_putF (X : CX D p m c cc nL s args own A) (hin : meth.name = "<init>") (w : Wd D A s.heap H locs ws) {index ci k : Nat} {fs : List Value} {v : Value} {ty : FieldType} (F : FP own index ci k ty true) (hn : narrow ty v = v) (hfit : fits ty v = true) (hl : k < fs.length) (hF : Foc ws [(a, .inr (ci, fs))] ws' [(a, .inr (ci, fs.set k v))]) (hdg : decode cc pc = .ok (.putfield index, 3))
    (kk : ∀ (H1 : Heap) (locs1 : List Loc), Wd D A s.heap H1 locs1 ws' → W p l e R s m args below meth c H1 locs1 cells slots Q (F0 m (pc + 3) ls rest)) : W p l e R s m args below meth c H locs cells slots Q (F0 m pc ls (v :: .ref a :: rest)) := by
  obtain ⟨⟨hx, hb, hml, hown, hts⟩, hK, hST, hA⟩ := X
  obtain ⟨C, T, N, ty0, f1, f2, f3, f4, f5, f6, f7, f8, f9⟩ := F
  obtain ⟨r, p1, p2⟩ := hF
  have w' := w.perm p1
  exact va_putF hx hb hts f1 ty0 f5 f6 hown hK w'.1 w'.2.1 w'.2.2 0 rfl f2 k f3 (hts _ f4) (fun _ h => h) f7 hin (f9 rfl) f8 hn hfit hl hdg (fun H1 locs1 hP hD hS => kk H1 locs1 (Wd.perm p2.symm ⟨hP, hD, hS⟩))
theorem r_iald (X : CX D p m c cc nL s args own A) (w : Wd D A s.heap H locs ws) {n : Nat} {f : Nat → Int32} {i : Int32} (j : Nat) (hm : (a, .inl (D.1 100, n, .inl f)) ∈ ws) (hi : i = nI j) (hj : j < n) (hn : n < 2 ^ 31) (hdg : decode cc pc = .ok (.iaload, 1))
    (kk : W p l e R s m args below meth c H locs cells slots Q (F0 m (pc + 1) ls (.int (f j) :: rest))) : W p l e R s m args below meth c H locs cells slots Q (F0 m pc ls (.int i :: .ref a :: rest)) := by
  obtain ⟨⟨hx, hb, hml, hown, hts⟩, hK, hST, hA⟩ := X
  obtain ⟨q0, hq⟩ := List.getElem?_of_mem hm
  subst hi
  exact va_iald hx hb hK w.1 q0 0 hq rfl (vp_in_nI hj hn) hdg (by rw [nI_clamp (Nat.lt_trans hj hn)]; exact kk)
theorem r_cald (X : CX D p m c cc nL s args own A) (w : Wd D A s.heap H locs ws) {n : Nat} {f : Nat → Int32} {i : Int32} (j : Nat) (hm : (a, .inl (D.1 101, n, .inl f)) ∈ ws) (hi : i = nI j) (hj : j < n) (hn : n < 2 ^ 31) (hdg : decode cc pc = .ok (.caload, 1))
    (kk : W p l e R s m args below meth c H locs cells slots Q (F0 m (pc + 1) ls (.int (f j) :: rest))) : W p l e R s m args below meth c H locs cells slots Q (F0 m pc ls (.int i :: .ref a :: rest)) := by
  obtain ⟨⟨hx, hb, hml, hown, hts⟩, hK, hST, hA⟩ := X
  obtain ⟨q0, hq⟩ := List.getElem?_of_mem hm
  subst hi
  exact va_cald hx hb hK w.1 q0 1 hq rfl (vp_in_nI hj hn) hdg (by rw [nI_clamp (Nat.lt_trans hj hn)]; exact kk)
theorem r_ald2 (X : CX D p m c cc nL s args own A) (w : Wd D A s.heap H locs ws) {n q : Nat} {g : Nat → Option Nat} {i : Int32} (j : Nat) (hm : (a, .inl (D.1 102, n, .inr (.inr (.inr (.inr g))))) ∈ ws) (hi : i = nI j) (hj : j < n) (hn : n < 2 ^ 31) (hg : g j = some q) (hdg : decode cc pc = .ok (.aaload, 1))
    (kk : W p l e R s m args below meth c H locs cells slots Q (F0 m (pc + 1) ls (.ref q :: rest))) : W p l e R s m args below meth c H locs cells slots Q (F0 m pc ls (.int i :: .ref a :: rest)) := by
  obtain ⟨⟨hx, hb, hml, hown, hts⟩, hK, hST, hA⟩ := X
  obtain ⟨q0, hq⟩ := List.getElem?_of_mem hm
  subst hi
  have hlt : (nI j).toNatClampNeg < n := by rw [nI_clamp (Nat.lt_trans hj hn)]; exact hj
  exact W.aald (v := .ref q) (ty := .array .int) hx hb (w.1 q0 _ hq) ((hK.2 2 _ rfl).1 n (fun j => va_rf (g j))) rfl (fun q => by cases q) (by show ¬ (_ < 0 ∨ (arrV _ _ _).slots.size ≤ _); rw [arrV_size]; exact vp_in_nI hj hn) (by show (arrV _ _ _).slots[_]? = _; rw [arrV_read _ _ hlt, nI_clamp (Nat.lt_trans hj hn), hg]; rfl) rfl rfl hdg kk
theorem r_aldq (X : CX D p m c cc nL s args own A) (w : Wd D A s.heap H locs ws) {n q : Nat} {g : Nat → Option Nat} {i : Int32} (j : Nat) (hm : (a, .inl (D.1 103, n, .inr (.inr (.inr (.inr g))))) ∈ ws) (hi : i = nI j) (hj : j < n) (hn : n < 2 ^ 31) (hg : g j = some q) (hdg : decode cc pc = .ok (.aaload, 1))
    (kk : W p l e R s m args below meth c H locs cells slots Q (F0 m (pc + 1) ls (.ref q :: rest))) : W p l e R s m args below meth c H locs cells slots Q (F0 m pc ls (.int i :: .ref a :: rest)) := by
  obtain ⟨⟨hx, hb, hml, hown, hts⟩, hK, hST, hA⟩ := X
  obtain ⟨q0, hq⟩ := List.getElem?_of_mem hm
  subst hi
  exact va_aldq hx hb hK w.1 q0 3 hq rfl (vp_in_nI hj hn) hdg (by rw [nI_clamp (Nat.lt_trans hj hn), hg]; exact kk)
theorem r_iast (X : CX D p m c cc nL s args own A) (w : Wd D A s.heap H locs ws) {n : Nat} {f : Nat → Int32} {i x : Int32} (j : Nat) (hi : i = nI j) (hj : j < n) (hn : n < 2 ^ 31) (hF : Foc ws [(a, .inl (D.1 100, n, .inl f))] ws' [(a, .inl (D.1 100, n, .inl (upd f j x)))]) (hdg : decode cc pc = .ok (.iastore, 1))
    (kk : ∀ (H1 : Heap) (locs1 : List Loc), Wd D A s.heap H1 locs1 ws' → W p l e R s m args below meth c H1 locs1 cells slots Q (F0 m (pc + 1) ls rest)) : W p l e R s m args below meth c H locs cells slots Q (F0 m pc ls (.int x :: .int i :: .ref a :: rest)) := by
  obtain ⟨⟨hx, hb, hml, hown, hts⟩, hK, hST, hA⟩ := X
  obtain ⟨r, p1, p2⟩ := hF
  have w' := w.perm p1
  subst hi
  exact va_iast hx hb hK w'.1 w'.2.1 w'.2.2 0 0 rfl rfl (vp_in_nI hj hn) hdg (fun H1 locs1 hP hD hS => kk H1 locs1 (by
    rw [nI_clamp (Nat.lt_trans hj hn)] at hP hD
    exact Wd.perm p2.symm ⟨hP, hD, hS⟩))
theorem r_cast (X : CX D p m c cc nL s args own A) (w : Wd D A s.heap H locs ws) {n : Nat} {f : Nat → Int32} {i x : Int32} (j : Nat) (hi : i = nI j) (hj : j < n) (hn : n < 2 ^ 31) (hv : vp_nar .char x = x) (hF : Foc ws [(a, .inl (D.1 101, n, .inl f))] ws' [(a, .inl (D.1 101, n, .inl (upd f j x)))]) (hdg : decode cc pc = .ok (.castore, 1))
    (kk : ∀ (H1 : Heap) (locs1 : List Loc), Wd D A s.heap H1 locs1 ws' → W p l e R s m args below meth c H1 locs1 cells slots Q (F0 m (pc + 1) ls rest)) : W p l e R s m args below meth c H locs cells slots Q (F0 m pc ls (.int x :: .int i :: .ref a :: rest)) := by
  obtain ⟨⟨hx, hb, hml, hown, hts⟩, hK, hST, hA⟩ := X
  obtain ⟨r, p1, p2⟩ := hF
  have w' := w.perm p1
  subst hi
  exact va_cast hx hb hK w'.1 w'.2.1 w'.2.2 0 1 rfl rfl (vp_in_nI hj hn) hdg (fun H1 locs1 hP hD hS => kk H1 locs1 (by
    rw [nI_clamp (Nat.lt_trans hj hn), hv] at hP hD
    exact Wd.perm p2.symm ⟨hP, hD, hS⟩))
theorem r_astq (X : CX D p m c cc nL s args own A) (w : Wd D A s.heap H locs ws) {n v : Nat} {g : Nat → Option Nat} {vs : List Value} {i : Int32} (j : Nat) (hi : i = nI j) (hj : j < n) (hn : n < 2 ^ 31) (hm : (v, .inr (3, vs)) ∈ ws) (hF : Foc ws [(a, .inl (D.1 103, n, .inr (.inr (.inr (.inr g)))))] ws' [(a, .inl (D.1 103, n, .inr (.inr (.inr (.inr (va_up g j (some v)))))))]) (hdg : decode cc pc = .ok (.aastore, 1))
    (kk : ∀ (H1 : Heap) (locs1 : List Loc), Wd D A s.heap H1 locs1 ws' → W p l e R s m args below meth c H1 locs1 cells slots Q (F0 m (pc + 1) ls rest)) : W p l e R s m args below meth c H locs cells slots Q (F0 m pc ls (.ref v :: .int i :: .ref a :: rest)) := by
  obtain ⟨⟨hx, hb, hml, hown, hts⟩, hK, hST, hA⟩ := X
  obtain ⟨r, p1, p2⟩ := hF
  have w' := w.perm p1
  obtain ⟨qk, hqk⟩ := List.getElem?_of_mem (p1.mem_iff.mp hm)
  subst hi
  exact va_astq (r := (RX3, TX3, 11)) hx hb hK w'.1 w'.2.1 w'.2.2 0 3 qk 3 rfl rfl hqk rfl (vp_in_nI hj hn) hdg (fun H1 locs1 hP hD hS => kk H1 locs1 (by
    rw [nI_clamp (Nat.lt_trans hj hn)] at hP hD
    exact Wd.perm p2.symm ⟨hP, hD, hS⟩))
/-- System.arraycopy between two int arrays of the world -/
def AC (own : String) (index : Nat) : Prop := Cond.methodLink own index arraycopyName ∈ lw_all ∧ Cond.native arraycopyName ∈ lw_all ∧ Cond.static arraycopyName ∈ lw_all ∧ Cond.initialized "java/lang/System" ∈ lw_all
theorem r_copy (X : CX D p m c cc nL s args own A) (w : Wd D A s.heap H locs ws) {index n0 n1 a0 : Nat} {f g : Nat → Int32} {i0 i1 i2 : Int32} (sp dp n : Nat) (F : AC own index) (hm : (a0, .inl (D.1 100, n0, .inl f)) ∈ ws) (e0 : i0 = nI sp) (e1 : i1 = nI dp) (e2 : i2 = nI n) (h4 : sp + n ≤ n0) (h5 : dp + n ≤ n1) (h0 : n0 < 2 ^ 31) (h1 : n1 < 2 ^ 31)
    (hF : Foc ws [(a, .inl (D.1 100, n1, .inl g))] ws' [(a, .inl (D.1 100, n1, .inl (va_cpy f g sp dp n)))]) (hsize : ls.size = nL) (hR : 1 ≤ R.frames ∧ (rest.map fun v => v.category).sum + (nativeFrameWords "java/lang/System" "arraycopy" 5 + 11) ≤ R.locals) (hdg : decode cc pc = .ok (.invokestatic index, 3))
    (kk : ∀ (H1 : Heap) (locs1 : List Loc), Wd D A s.heap H1 locs1 ws' → W p l e R s m args below meth c H1 locs1 cells slots Q (F0 m (pc + 3) ls rest)) : W p l e R s m args below meth c H locs cells slots Q (F0 m pc ls (.int i2 :: .int i1 :: .ref a :: .int i0 :: .ref a0 :: rest)) := by
  obtain ⟨⟨hx, hb, hml, hown, hts⟩, hK, hST, hA⟩ := X
  obtain ⟨r, p1, p2⟩ := hF
  have w' := w.perm p1
  obtain ⟨qk, hqk⟩ := List.getElem?_of_mem (p1.mem_iff.mp hm)
  subst e0; subst e1; subst e2
  have b0 : sp < 2 ^ 31 := by omega
  have b1 : dp < 2 ^ 31 := by omega
  have b2 : n < 2 ^ 31 := by omega
  exact va_copyi (ty := .int) hx hb (hml.trans hsize.symm) hown (hts _ F.1) (hts _ F.2.1) (hts _ F.2.2.1) (hts _ F.2.2.2) hK w'.1 w'.2.1 w'.2.2 qk 0 0 0 hqk rfl rfl rfl rfl (nI_pos b0) (nI_pos b1) (nI_pos b2) (by rw [nI_clamp b0, nI_clamp b2]; exact h4) (by rw [nI_clamp b1, nI_clamp b2]; exact h5) (fun _ _ => rfl) hR.1 hR.2 hdg (fun H1 locs1 hP hD hS => kk H1 locs1 (by
    rw [nI_clamp b0, nI_clamp b1, nI_clamp b2] at hP hD
    exact Wd.perm p2.symm ⟨hP, hD, hS⟩))
theorem r_tiald (X : CX D p m c cc nL s args own A) (w : Wd D A s.heap H locs ws) {t : Nat} {L : List Int32} {i : Int32} (j : Nat) (hT : va_T .int t L.length (fun j => .int (kf L j)) A s s.heap) (hi : i = nI j) (hj : j < L.length) (hn : L.length < 2 ^ 31) (hdg : decode cc pc = .ok (.iaload, 1))
    (kk : W p l e R s m args below meth c H locs cells slots Q (F0 m (pc + 1) ls (.int (kf L j) :: rest))) : W p l e R s m args below meth c H locs cells slots Q (F0 m pc ls (.int i :: .ref t :: rest)) := by
  obtain ⟨⟨hx, hb, hml, hown, hts⟩, hK, hST, hA⟩ := X
  subst hi
  exact va_ti hx hb hT w.2.2 (vp_in_nI hj hn) (by rw [nI_clamp (Nat.lt_trans hj hn)]) hdg kk
/-- getstatic of a table of the program, by a nest mate -/
theorem r_getsN (X : CX D p m c cc nL s args own A) (w : Wd D A s.heap H locs ws) {n : String} {L : List Int32} {index : Nat} (hT : STn n L A s s.heap) (hl : va_Nw (.fieldLinkNest own index RX6 n "[I" RX6) s) (hdg : decode cc pc = .ok (.getstatic index, 3))
    (kk : ∀ t : Nat, va_T .int t L.length (fun j => .int (kf L j)) A s s.heap → W p l e R s m args below meth c H locs cells slots Q (F0 m (pc + 3) ls (.ref t :: rest))) : W p l e R s m args below meth c H locs cells slots Q (F0 m pc ls rest) := by
  obtain ⟨⟨hx, hb, hml, hown, hts⟩, hK, hST, hA⟩ := X
  obtain ⟨t, h1, h2⟩ := hT
  exact va_getsN hx hb h1 w.2.2 hown (va_Nw.use rfl hl) (fun _ h => h) hdg (kk t h2)
theorem r_gets (X : CX D p m c cc nL s args own A) (w : Wd D A s.heap H locs ws) {n : String} {L : List Int32} {index : Nat} (hT : STn n L A s s.heap) (hl : Cond.fieldLink own index RX6 n "[I" ∈ lw_all) (hdg : decode cc pc = .ok (.getstatic index, 3))
    (kk : ∀ t : Nat, va_T .int t L.length (fun j => .int (kf L j)) A s s.heap → W p l e R s m args below meth c H locs cells slots Q (F0 m (pc + 3) ls (.ref t :: rest))) : W p l e R s m args below meth c H locs cells slots Q (F0 m pc ls rest) := by
  obtain ⟨⟨hx, hb, hml, hown, hts⟩, hK, hST, hA⟩ := X
  obtain ⟨t, h1, h2⟩ := hT
  exact va_gets hx hb h1 w.2.2 hown (hts _ hl) (fun _ h => h) hdg (kk t h2)
/-- what a call links -/
def LB (own : String) (index : Nat) (y : MethodName) (cy : ByteArray) (ny : Nat) (ret : Option FieldType) (n : Nat) : Prop :=
  Cond.code y cy ny ret ∈ lw_all ∧ Cond.initialized y.cls ∈ lw_all ∧ Cond.methodLink own index y ∈ lw_all ∧ (y.cls ≠ "java/lang/invoke/MethodHandle" ∧ y.cls ≠ "java/lang/invoke/VarHandle" ∧ (parseMethodDescriptor y.desc).map (fun d => d.parameters.length) = some n)
def LBN (y : MethodName) (cy : ByteArray) (ny : Nat) (ret : Option FieldType) (n : Nat) : Prop :=
  Cond.code y cy ny ret ∈ lw_all ∧ Cond.initialized y.cls ∈ lw_all ∧ Cond.static y ∈ lw_all ∧ (y.cls ≠ "java/lang/invoke/MethodHandle" ∧ y.cls ≠ "java/lang/invoke/VarHandle" ∧ (parseMethodDescriptor y.desc).map (fun d => d.parameters.length) = some n)
def LV (own : String) (index : Nat) (y : MethodName) (cy : ByteArray) (ny : Nat) (ret : Option FieldType) (n ci : Nat) : Prop :=
  LB own index y cy ny ret n ∧ Cond.instanceMethod y ∈ lw_all ∧ Cond.selects y.cls y y ∈ lw_all ∧ ∃ (T : u_T) (N : Nat), vwCl[ci]? = some (y.cls, T, N)
def LkS (own : String) (index : Nat) (y : MethodName) (cy : ByteArray) (ny : Nat) (ret : Option FieldType) (n : Nat) : Prop := LB own index y cy ny ret n ∧ Cond.static y ∈ lw_all
def LI (own : String) (index : Nat) (y : MethodName) (cy : ByteArray) (ny : Nat) (n : Nat) : Prop := LB own index y cy ny none n ∧ y.name = "<init>" ∧ Cond.instanceMethod y ∈ lw_all
abbrev rmOf (fr mc ms lo : Nat) : Room := { frames := fr, cells := mc, slots := ms, locals := lo }
theorem r_runV (X : CX D p m c cc nL s args own A) (w : Wd D A s.heap H locs ws) {y : MethodName} {cy : ByteArray} {ny index n ci fr mc ms lo : Nat} {ret : Option FieldType} {As rest : List Value} {b r : va_W} {Qc : Array Value → State → Outcome → State → Prop} {free : Addr → Prop} {fs : List Value}
    (L : LV own index y cy ny ret n ci) (hM : Met l y (WS y cy ny ret) (rmOf fr mc ms lo) (va_Pc (.ref a :: As) (PreW D H.size b)) Qc mc ms free) (hp : ws.Perm (b ++ r)) (hm : (a, .inr (ci, fs)) ∈ ws) (hn : As.length = n) (hsize : ls.size = nL) (hroom : (rest.map fun v => v.category).sum ≤ 8) (hR : fr + 1 ≤ R.frames ∧ 8 + (ny + 11) + lo ≤ R.locals) (hf : cells + mc ≤ R.cells ∧ slots + ms ≤ R.slots) (hst : st0 = As.reverse ++ .ref a :: rest) (hdg : decode cc pc = .ok (.invokevirtual index, 3)) :
    va_Run p l e R s m args below meth c H locs cells slots mc ms (F0 m pc ls st0) rest (Qc (Value.ref a :: As).toArray) free := by
  obtain ⟨hf0, hpre⟩ := Wd.call X w hp
  obtain ⟨⟨hx, hb, hml, hown, hts⟩, hK, hST, hA⟩ := X
  obtain ⟨⟨l1, l2, l3, l4⟩, l5, l6, T, N, l7⟩ := L
  obtain ⟨q0, hq⟩ := List.getElem?_of_mem hm
  exact va_runV (As := As) (rest := rest) ⟨hx, hb, hml, hown, hts⟩ hM ⟨callB_of n hts (good_all l1) rfl rfl rfl (hts _ l2) (hts _ l3) l4 hR, hts _ l5, hts _ l6⟩ ⟨PreW.blind, va_recv hK w.1 l7 hq, fun U hU hW => ⟨rfl, hpre U hU hW⟩⟩ rfl hn hsize hst (lv_room hroom) hdg hf
theorem r_runS (X : CX D p m c cc nL s args own A) (w : Wd D A s.heap H locs ws) {y : MethodName} {cy : ByteArray} {ny index n fr mc ms lo : Nat} {ret : Option FieldType} {As rest : List Value} {b r : va_W} {Qc : Array Value → State → Outcome → State → Prop} {free : Addr → Prop}
    (L : LkS own index y cy ny ret n) (hM : Met l y (WS y cy ny ret) (rmOf fr mc ms lo) (va_Pc As (PreW D H.size b)) Qc mc ms free) (hp : ws.Perm (b ++ r)) (hn : As.length = n) (hsize : ls.size = nL) (hroom : (rest.map fun v => v.category).sum ≤ 8) (hR : fr + 1 ≤ R.frames ∧ 8 + (ny + 11) + lo ≤ R.locals) (hf : cells + mc ≤ R.cells ∧ slots + ms ≤ R.slots) (hst : st0 = As.reverse ++ rest) (hdg : decode cc pc = .ok (.invokestatic index, 3)) :
    va_Run p l e R s m args below meth c H locs cells slots mc ms (F0 m pc ls st0) rest (Qc As.toArray) free := by
  obtain ⟨hf0, hpre⟩ := Wd.call X w hp
  obtain ⟨⟨hx, hb, hml, hown, hts⟩, hK, hST, hA⟩ := X
  obtain ⟨⟨l1, l2, l3, l4⟩, l5⟩ := L
  exact va_runS (As := As) (rest := rest) ⟨hx, hb, hml, hown, hts⟩ hM ⟨callB_of n hts (good_all l1) rfl rfl rfl (hts _ l2) (hts _ l3) l4 hR, hts _ l5⟩ ⟨PreW.blind, fun U hU hW => ⟨rfl, hpre U hU hW⟩⟩ rfl hn hsize hst (lv_room hroom) hdg hf
theorem r_runSN (X : CX D p m c cc nL s args own A) (w : Wd D A s.heap H locs ws) {y : MethodName} {cy : ByteArray} {ny index n fr mc ms lo : Nat} {ret : Option FieldType} {As rest : List Value} {b r : va_W} {Qc : Array Value → State → Outcome → State → Prop} {free : Addr → Prop}
    (L : LBN y cy ny ret n) (hl : va_Nw (.methodLinkNest own index y RX6) s) (hM : Met l y (WS y cy ny ret) (rmOf fr mc ms lo) (va_Pc As (PreW D H.size b)) Qc mc ms free) (hp : ws.Perm (b ++ r)) (hn : As.length = n) (hsize : ls.size = nL) (hroom : (rest.map fun v => v.category).sum ≤ 8) (hR : fr + 1 ≤ R.frames ∧ 8 + (ny + 11) + lo ≤ R.locals) (hf : cells + mc ≤ R.cells ∧ slots + ms ≤ R.slots) (hst : st0 = As.reverse ++ rest) (hdg : decode cc pc = .ok (.invokestatic index, 3)) :
    va_Run p l e R s m args below meth c H locs cells slots mc ms (F0 m pc ls st0) rest (Qc As.toArray) free := by
  obtain ⟨hf0, hpre⟩ := Wd.call X w hp
  obtain ⟨⟨hx, hb, hml, hown, hts⟩, hK, hST, hA⟩ := X
  obtain ⟨l1, l2, l3, l4⟩ := L
  exact va_runSN (As := As) (rest := rest) (host := RX6) ⟨hx, hb, hml, hown, hts⟩ hM ⟨va_cnB n hts (good_all l1) rfl rfl rfl hl (hts _ l2) l4 hR, hts _ l3, trivial⟩ ⟨PreW.blind, fun U hU hW => ⟨rfl, hpre U hU hW⟩⟩ rfl hn hsize hst (lv_room hroom) hdg hf
theorem r_runI (X : CX D p m c cc nL s args own A) (w : Wd D A s.heap H locs ws) {y : MethodName} {cy : ByteArray} {ny index n fr mc ms lo : Nat} {As rest : List Value} {b r : va_W} {Qc : Array Value → State → Outcome → State → Prop} {free : Addr → Prop}
    (L : LI own index y cy ny n) (hM : Met l y (WS y cy ny none) (rmOf fr mc ms lo) (va_Pc (.ref a :: As) (PreW D H.size b)) Qc mc ms free) (hp : ws.Perm (b ++ r)) (hn : As.length = n) (hsize : ls.size = nL) (hroom : (rest.map fun v => v.category).sum ≤ 8) (hR : fr + 1 ≤ R.frames ∧ 8 + (ny + 11) + lo ≤ R.locals) (hf : cells + mc ≤ R.cells ∧ slots + ms ≤ R.slots) (hst : st0 = As.reverse ++ .ref a :: rest) (hdg : decode cc pc = .ok (.invokespecial index, 3)) :
    va_Run p l e R s m args below meth c H locs cells slots mc ms (F0 m pc ls st0) rest (Qc (Value.ref a :: As).toArray) free := by
  obtain ⟨hf0, hpre⟩ := Wd.call X w hp
  obtain ⟨⟨hx, hb, hml, hown, hts⟩, hK, hST, hA⟩ := X
  obtain ⟨⟨l1, l2, l3, l4⟩, l5, l6⟩ := L
  exact va_runI (As := As) (rest := rest) ⟨hx, hb, hml, hown, hts⟩ hM ⟨callB_of n hts (good_all l1) rfl rfl rfl (hts _ l2) (hts _ l3) l4 hR, l5, hts _ l6⟩ ⟨PreW.blind, fun U hU hW => ⟨rfl, hpre U hU hW⟩⟩ rfl hn hsize hst (lv_room hroom) hdg hf
/-- a call that answers a number, and goes on in the world that it leaves -/
theorem r_goI {S : Type} (X : CX D p m c cc nL s args own A) (w : Wd D A s.heap H locs ws) {mc ms : Nat} {a9 : Array Value} {b : va_W} {W1 b1 : S → va_W} {post : Int32 → S → Prop} (hF : FocU ws b W1 b1)
    (hr : va_Run p l e R s m args below meth c H locs cells slots mc ms (F0 m pc ls st0) rest (va_Qi post (fun u t => EndW D (va_A b H.size) (b1 u) t) (va_A b H.size) a9) (va_A b H.size))
    (kk : ∀ (r : Int32) (u : S) (H1 : Heap) (locs1 : List Loc), post r u → Wd D A s.heap H1 locs1 (W1 u) → W p l e R s m args below meth c H1 locs1 (cells + mc) (slots + ms) Q (F0 m (pc + 3) ls (.int r :: rest))) : W p l e R s m args below meth c H locs cells slots Q (F0 m pc ls st0) := by
  obtain ⟨r0, p1, p2⟩ := hF
  obtain ⟨hf0, -⟩ := Wd.call X w p1
  refine va_calli hr w.2.2 (fun q _ h => hf0 q h) hf0 (fun r u t H1 locs1 ht hvm hw hB hz hk hS => ?_)
  obtain ⟨hP1, hD1⟩ := hB
  rw [ht] at hP1
  obtain ⟨j1, j2⟩ := join_core w.1 w.2.1 p1 (p2 u) hk hf0 hP1 hD1
  exact kk r u H1 locs1 hw ⟨j1, j2, hS⟩
theorem r_goV {S : Type} (X : CX D p m c cc nL s args own A) (w : Wd D A s.heap H locs ws) {mc ms : Nat} {a9 : Array Value} {b : va_W} {W1 b1 : S → va_W} {post : S → Prop} (hF : FocU ws b W1 b1)
    (hr : va_Run p l e R s m args below meth c H locs cells slots mc ms (F0 m pc ls st0) rest (va_Qv post (fun u t => EndW D (va_A b H.size) (b1 u) t) (va_A b H.size) a9) (va_A b H.size))
    (kk : ∀ (u : S) (H1 : Heap) (locs1 : List Loc), post u → Wd D A s.heap H1 locs1 (W1 u) → W p l e R s m args below meth c H1 locs1 (cells + mc) (slots + ms) Q (F0 m (pc + 3) ls rest)) : W p l e R s m args below meth c H locs cells slots Q (F0 m pc ls st0) := by
  obtain ⟨r0, p1, p2⟩ := hF
  obtain ⟨hf0, -⟩ := Wd.call X w p1
  refine va_callv hr w.2.2 (fun q _ h => hf0 q h) hf0 (fun u t H1 locs1 ht hvm hw hB hz hk hS => ?_)
  obtain ⟨hP1, hD1⟩ := hB
  rw [ht] at hP1
  obtain ⟨j1, j2⟩ := join_core w.1 w.2.1 p1 (p2 u) hk hf0 hP1 hD1
  exact kk u H1 locs1 hw ⟨j1, j2, hS⟩
/-- contracts: what a method answers and what becomes of its world; nothing is made -/
abbrev MI (l : Launch) (y : MethodName) (cy : ByteArray) (ny : Nat) (ret : Option FieldType) (fr lo : Nat) (D : va_G) (sz : Nat) (As : List Value) (b : va_W) (r : Int32) (b' : va_W) : Prop :=
  Met l y (WS y cy ny ret) (rmOf fr 0 0 lo) (va_Pc As (PreW D sz b)) (va_Qi (fun (r' : Int32) (_ : Unit) => r' = r) (fun _ t => EndW D (va_A b sz) b' t) (va_A b sz)) 0 0 (va_A b sz)
abbrev MV (l : Launch) (y : MethodName) (cy : ByteArray) (ny : Nat) (fr lo : Nat) (D : va_G) (sz : Nat) (As : List Value) (b b' : va_W) : Prop :=
  Met l y (WS y cy ny none) (rmOf fr 0 0 lo) (va_Pc As (PreW D sz b)) (va_Qv (fun (_ : Unit) => True) (fun _ t => EndW D (va_A b sz) b' t) (va_A b sz)) 0 0 (va_A b sz)
abbrev MIU {S : Type} (l : Launch) (y : MethodName) (cy : ByteArray) (ny : Nat) (ret : Option FieldType) (fr lo : Nat) (D : va_G) (sz : Nat) (As : List Value) (b : va_W) (r : Int32) (post : S → Prop) (b' : S → va_W) : Prop :=
  Met l y (WS y cy ny ret) (rmOf fr 0 0 lo) (va_Pc As (PreW D sz b)) (va_Qi (fun (r' : Int32) (u : S) => r' = r ∧ post u) (fun u t => EndW D (va_A b sz) (b' u) t) (va_A b sz)) 0 0 (va_A b sz)
abbrev MVU {S : Type} (l : Launch) (y : MethodName) (cy : ByteArray) (ny : Nat) (fr lo : Nat) (D : va_G) (sz : Nat) (As : List Value) (b : va_W) (post : S → Prop) (b' : S → va_W) : Prop :=
  Met l y (WS y cy ny none) (rmOf fr 0 0 lo) (va_Pc As (PreW D sz b)) (va_Qv (fun (u : S) => post u) (fun u t => EndW D (va_A b sz) (b' u) t) (va_A b sz)) 0 0 (va_A b sz)
theorem r_callV (X : CX D p m c cc nL s args own A) (w : Wd D A s.heap H locs ws) {y : MethodName} {cy : ByteArray} {ny index n ci fr lo : Nat} {ret : Option FieldType} {As rest : List Value} {b b' : va_W} {fs : List Value} {r : Int32}
    (L : LV own index y cy ny ret n ci) (hM : MI l y cy ny ret fr lo D H.size (.ref a :: As) b r b') (hF : Foc ws b ws' b') (hm : (a, .inr (ci, fs)) ∈ ws) (hn : As.length = n) (hsize : ls.size = nL) (hroom : (rest.map fun v => v.category).sum ≤ 8) (hR : fr + 1 ≤ R.frames ∧ 8 + (ny + 11) + lo ≤ R.locals) (hst : st0 = As.reverse ++ .ref a :: rest) (hdg : decode cc pc = .ok (.invokevirtual index, 3)) (hf : cells ≤ R.cells ∧ slots ≤ R.slots)
    (kk : ∀ (H1 : Heap) (locs1 : List Loc), Wd D A s.heap H1 locs1 ws' → W p l e R s m args below meth c H1 locs1 cells slots Q (F0 m (pc + 3) ls (.int r :: rest))) : W p l e R s m args below meth c H locs cells slots Q (F0 m pc ls st0) := by
  have hF' := FocU.of hF
  obtain ⟨r0, p1, p2⟩ := id hF'
  exact r_goI X w hF' (r_runV X w L hM p1 hm hn hsize hroom hR hf hst hdg) (fun r' u H1 locs1 hr w1 => by rw [hr]; exact kk H1 locs1 w1)
theorem r_callVv (X : CX D p m c cc nL s args own A) (w : Wd D A s.heap H locs ws) {y : MethodName} {cy : ByteArray} {ny index n ci fr lo : Nat} {As rest : List Value} {b b' : va_W} {fs : List Value}
    (L : LV own index y cy ny none n ci) (hM : MV l y cy ny fr lo D H.size (.ref a :: As) b b') (hF : Foc ws b ws' b') (hm : (a, .inr (ci, fs)) ∈ ws) (hn : As.length = n) (hsize : ls.size = nL) (hroom : (rest.map fun v => v.category).sum ≤ 8) (hR : fr + 1 ≤ R.frames ∧ 8 + (ny + 11) + lo ≤ R.locals) (hst : st0 = As.reverse ++ .ref a :: rest) (hdg : decode cc pc = .ok (.invokevirtual index, 3)) (hf : cells ≤ R.cells ∧ slots ≤ R.slots)
    (kk : ∀ (H1 : Heap) (locs1 : List Loc), Wd D A s.heap H1 locs1 ws' → W p l e R s m args below meth c H1 locs1 cells slots Q (F0 m (pc + 3) ls rest)) : W p l e R s m args below meth c H locs cells slots Q (F0 m pc ls st0) := by
  have hF' := FocU.of hF
  obtain ⟨r0, p1, p2⟩ := id hF'
  exact r_goV X w hF' (r_runV X w L hM p1 hm hn hsize hroom hR hf hst hdg) (fun u H1 locs1 _ w1 => kk H1 locs1 w1)
theorem r_callS (X : CX D p m c cc nL s args own A) (w : Wd D A s.heap H locs ws) {y : MethodName} {cy : ByteArray} {ny index n fr lo : Nat} {ret : Option FieldType} {As rest : List Value} {b b' : va_W} {r : Int32}
    (L : LkS own index y cy ny ret n) (hM : MI l y cy ny ret fr lo D H.size As b r b') (hF : Foc ws b ws' b') (hn : As.length = n) (hsize : ls.size = nL) (hroom : (rest.map fun v => v.category).sum ≤ 8) (hR : fr + 1 ≤ R.frames ∧ 8 + (ny + 11) + lo ≤ R.locals) (hst : st0 = As.reverse ++ rest) (hdg : decode cc pc = .ok (.invokestatic index, 3)) (hf : cells ≤ R.cells ∧ slots ≤ R.slots)
    (kk : ∀ (H1 : Heap) (locs1 : List Loc), Wd D A s.heap H1 locs1 ws' → W p l e R s m args below meth c H1 locs1 cells slots Q (F0 m (pc + 3) ls (.int r :: rest))) : W p l e R s m args below meth c H locs cells slots Q (F0 m pc ls st0) := by
  have hF' := FocU.of hF
  obtain ⟨r0, p1, p2⟩ := id hF'
  exact r_goI X w hF' (r_runS X w L hM p1 hn hsize hroom hR hf hst hdg) (fun r' u H1 locs1 hr w1 => by rw [hr]; exact kk H1 locs1 w1)
theorem r_callSv (X : CX D p m c cc nL s args own A) (w : Wd D A s.heap H locs ws) {y : MethodName} {cy : ByteArray} {ny index n fr lo : Nat} {As rest : List Value} {b b' : va_W}
    (L : LkS own index y cy ny none n) (hM : MV l y cy ny fr lo D H.size As b b') (hF : Foc ws b ws' b') (hn : As.length = n) (hsize : ls.size = nL) (hroom : (rest.map fun v => v.category).sum ≤ 8) (hR : fr + 1 ≤ R.frames ∧ 8 + (ny + 11) + lo ≤ R.locals) (hst : st0 = As.reverse ++ rest) (hdg : decode cc pc = .ok (.invokestatic index, 3)) (hf : cells ≤ R.cells ∧ slots ≤ R.slots)
    (kk : ∀ (H1 : Heap) (locs1 : List Loc), Wd D A s.heap H1 locs1 ws' → W p l e R s m args below meth c H1 locs1 cells slots Q (F0 m (pc + 3) ls rest)) : W p l e R s m args below meth c H locs cells slots Q (F0 m pc ls st0) := by
  have hF' := FocU.of hF
  obtain ⟨r0, p1, p2⟩ := id hF'
  exact r_goV X w hF' (r_runS X w L hM p1 hn hsize hroom hR hf hst hdg) (fun u H1 locs1 _ w1 => kk H1 locs1 w1)
theorem r_callSN (X : CX D p m c cc nL s args own A) (w : Wd D A s.heap H locs ws) {y : MethodName} {cy : ByteArray} {ny index n fr lo : Nat} {ret : Option FieldType} {As rest : List Value} {b b' : va_W} {r : Int32}
    (L : LBN y cy ny ret n) (hl : va_Nw (.methodLinkNest own index y RX6) s) (hM : MI l y cy ny ret fr lo D H.size As b r b') (hF : Foc ws b ws' b') (hn : As.length = n) (hsize : ls.size = nL) (hroom : (rest.map fun v => v.category).sum ≤ 8) (hR : fr + 1 ≤ R.frames ∧ 8 + (ny + 11) + lo ≤ R.locals) (hst : st0 = As.reverse ++ rest) (hdg : decode cc pc = .ok (.invokestatic index, 3)) (hf : cells ≤ R.cells ∧ slots ≤ R.slots)
    (kk : ∀ (H1 : Heap) (locs1 : List Loc), Wd D A s.heap H1 locs1 ws' → W p l e R s m args below meth c H1 locs1 cells slots Q (F0 m (pc + 3) ls (.int r :: rest))) : W p l e R s m args below meth c H locs cells slots Q (F0 m pc ls st0) := by
  have hF' := FocU.of hF
  obtain ⟨r0, p1, p2⟩ := id hF'
  exact r_goI X w hF' (r_runSN X w L hl hM p1 hn hsize hroom hR hf hst hdg) (fun r' u H1 locs1 hr w1 => by rw [hr]; exact kk H1 locs1 w1)
theorem r_callVU {S : Type} (X : CX D p m c cc nL s args own A) (w : Wd D A s.heap H locs ws) {y : MethodName} {cy : ByteArray} {ny index n ci fr lo : Nat} {ret : Option FieldType} {As rest : List Value} {b : va_W} {b' W1 : S → va_W} {fs : List Value} {r : Int32} {post : S → Prop}
    (L : LV own index y cy ny ret n ci) (hM : MIU l y cy ny ret fr lo D H.size (.ref a :: As) b r post b') (hF : FocU ws b W1 b') (hm : (a, .inr (ci, fs)) ∈ ws) (hn : As.length = n) (hsize : ls.size = nL) (hroom : (rest.map fun v => v.category).sum ≤ 8) (hR : fr + 1 ≤ R.frames ∧ 8 + (ny + 11) + lo ≤ R.locals) (hst : st0 = As.reverse ++ .ref a :: rest) (hdg : decode cc pc = .ok (.invokevirtual index, 3)) (hf : cells ≤ R.cells ∧ slots ≤ R.slots)
    (kk : ∀ (u : S) (H1 : Heap) (locs1 : List Loc), post u → Wd D A s.heap H1 locs1 (W1 u) → W p l e R s m args below meth c H1 locs1 cells slots Q (F0 m (pc + 3) ls (.int r :: rest))) : W p l e R s m args below meth c H locs cells slots Q (F0 m pc ls st0) := by
  obtain ⟨r0, p1, p2⟩ := id hF
  exact r_goI X w hF (r_runV X w L hM p1 hm hn hsize hroom hR hf hst hdg) (fun r' u H1 locs1 hr w1 => by rw [hr.1]; exact kk u H1 locs1 hr.2 w1)
theorem r_callVvU {S : Type} (X : CX D p m c cc nL s args own A) (w : Wd D A s.heap H locs ws) {y : MethodName} {cy : ByteArray} {ny index n ci fr lo : Nat} {As rest : List Value} {b : va_W} {b' W1 : S → va_W} {fs : List Value} {post : S → Prop}
    (L : LV own index y cy ny none n ci) (hM : MVU l y cy ny fr lo D H.size (.ref a :: As) b post b') (hF : FocU ws b W1 b') (hm : (a, .inr (ci, fs)) ∈ ws) (hn : As.length = n) (hsize : ls.size = nL) (hroom : (rest.map fun v => v.category).sum ≤ 8) (hR : fr + 1 ≤ R.frames ∧ 8 + (ny + 11) + lo ≤ R.locals) (hst : st0 = As.reverse ++ .ref a :: rest) (hdg : decode cc pc = .ok (.invokevirtual index, 3)) (hf : cells ≤ R.cells ∧ slots ≤ R.slots)
    (kk : ∀ (u : S) (H1 : Heap) (locs1 : List Loc), post u → Wd D A s.heap H1 locs1 (W1 u) → W p l e R s m args below meth c H1 locs1 cells slots Q (F0 m (pc + 3) ls rest)) : W p l e R s m args below meth c H locs cells slots Q (F0 m pc ls st0) := by
  obtain ⟨r0, p1, p2⟩ := id hF
  exact r_goV X w hF (r_runV X w L hM p1 hm hn hsize hroom hR hf hst hdg) (fun u H1 locs1 hr w1 => kk u H1 locs1 hr w1)
/-- a method's end -/
abbrev QI (below : List Frame) (args : Array Value) (s : State) (D : va_G) (A : Nat → Prop) (r : Int32) (b' : va_W) : State → Prop := MQ below (va_Qi (fun (r' : Int32) (_ : Unit) => r' = r) (fun _ t => EndW D A b' t) A) args s 0 0 A
abbrev QV (below : List Frame) (args : Array Value) (s : State) (D : va_G) (A : Nat → Prop) (b' : va_W) : State → Prop := MQ below (va_Qv (fun (_ : Unit) => True) (fun _ t => EndW D A b' t) A) args s 0 0 A
abbrev QIU {S : Type} (below : List Frame) (args : Array Value) (s : State) (D : va_G) (A : Nat → Prop) (r : Int32) (post : S → Prop) (b' : S → va_W) : State → Prop := MQ below (va_Qi (fun (r' : Int32) (u : S) => r' = r ∧ post u) (fun u t => EndW D A (b' u) t) A) args s 0 0 A
abbrev QVU {S : Type} (below : List Frame) (args : Array Value) (s : State) (D : va_G) (A : Nat → Prop) (post : S → Prop) (b' : S → va_W) : State → Prop := MQ below (va_Qv (fun (u : S) => post u) (fun u t => EndW D A (b' u) t) A) args s 0 0 A
theorem r_ret (X : CX D p m c cc nL s args own A) (w : Wd D A s.heap H locs ws) (hlocks : meth.locks = false) {ret : FieldType} {v r : Int32} (hr : meth.sig.returnType = some ret) (hn : narrow ret (.int v) = .int v) (ev : v = r) (ew : ws = ws') (hdg : decode cc pc = .ok (.ireturn, 1)) :
    W p l e R s m args below meth c H locs 0 0 (QI below args s D A r ws') (F0 m pc ls [.int v]) := by
  obtain ⟨⟨hx, hb, hml, hown, hts⟩, hK, hST, hA⟩ := X
  subst ew
  exact W.zret hx hb hr hn (fun t ht _ => ⟨⟨v, (), rfl, ev, by rw [ht]; exact w.1, w.2.1⟩, w.2.2.F ht⟩) w.2.2.2.2 hdg hlocks
theorem r_retV (X : CX D p m c cc nL s args own A) (w : Wd D A s.heap H locs ws) (hlocks : meth.locks = false) (hr : meth.sig.returnType = none) (ew : ws = ws') (hdg : decode cc pc = .ok (.return_, 1)) :
    W p l e R s m args below meth c H locs 0 0 (QV below args s D A ws') (F0 m pc ls []) := by
  obtain ⟨⟨hx, hb, hml, hown, hts⟩, hK, hST, hA⟩ := X
  subst ew
  exact W.vret hx hb hr (fun t ht _ => ⟨⟨(), rfl, trivial, by rw [ht]; exact w.1, w.2.1⟩, w.2.2.F ht⟩) w.2.2.2.2 hdg hlocks
theorem r_retU {S : Type} (X : CX D p m c cc nL s args own A) (w : Wd D A s.heap H locs ws) (hlocks : meth.locks = false) {ret : FieldType} {v r : Int32} {post : S → Prop} {b' : S → va_W} (u : S) (hr : meth.sig.returnType = some ret) (hn : narrow ret (.int v) = .int v) (ev : v = r) (hu : post u) (ew : ws = b' u) (hdg : decode cc pc = .ok (.ireturn, 1)) :
    W p l e R s m args below meth c H locs 0 0 (QIU below args s D A r post b') (F0 m pc ls [.int v]) := by
  obtain ⟨⟨hx, hb, hml, hown, hts⟩, hK, hST, hA⟩ := X
  subst ew
  exact W.zret hx hb hr hn (fun t ht _ => ⟨⟨v, u, rfl, ⟨ev, hu⟩, by rw [ht]; exact w.1, w.2.1⟩, w.2.2.F ht⟩) w.2.2.2.2 hdg hlocks
theorem r_retVU {S : Type} (X : CX D p m c cc nL s args own A) (w : Wd D A s.heap H locs ws) (hlocks : meth.locks = false) {post : S → Prop} {b' : S → va_W} (u : S) (hr : meth.sig.returnType = none) (hu : post u) (ew : ws = b' u) (hdg : decode cc pc = .ok (.return_, 1)) :
    W p l e R s m args below meth c H locs 0 0 (QVU below args s D A post b') (F0 m pc ls []) := by
  obtain ⟨⟨hx, hb, hml, hown, hts⟩, hK, hST, hA⟩ := X
  subst ew
  exact W.vret hx hb hr (fun t ht _ => ⟨⟨u, rfl, hu, by rw [ht]; exact w.1, w.2.1⟩, w.2.2.F ht⟩) w.2.2.2.2 hdg hlocks
/-- a method's beginning -/
theorem r_enter {y : MethodName} {cy : ByteArray} {ny fr lo sz mc ms : Nat} {ret : Option FieldType} {As : List Value} {b : va_W} {Qc : Array Value → State → Outcome → State → Prop} (hy : plainName y.cls = true) (hlen : (lg_sl As).length ≤ ny)
    (body : ∀ (p : Program) (e : Env) (s : State) (m : MethodId) (args : Array Value) (below : List Frame) (meth : Method) (c : Code) (ls : Array Slot), CX D p m c cy ny s args y.cls (va_A b sz) → meth.sig.returnType = ret → meth.locks = false → meth.name = y.name → s.heap.size = sz → Wd D (va_A b sz) s.heap s.heap [] b → lv_has ls ny (lv_args 0 As) →
      W p l e (rmOf fr mc ms lo) s m args below meth c s.heap [] 0 0 (MQ below Qc args s mc ms (va_A b sz)) (F0 m 0 ls [])) :
    Met l y (WS y cy ny ret) (rmOf fr mc ms lo) (va_Pc As (PreW D sz b)) Qc mc ms (va_A b sz) := by
  refine Met.ofW (cc := cy) (maxL := ny) (ret := ret) hy rfl ?_
  intro p e s m args below meth c s₁ B hml hv
  obtain ⟨rfl, hsz, hP, hK, hD, hS⟩ := hv
  have hts := atoms_spec (ws := WS y cy ny ret) B.pre
  have hl := lv_entry As (n := ny) hlen
  rw [lg_entry_eq]
  subst hsz
  exact body p e s m _ below meth c _ ⟨⟨B.exec, B.bytes, hml, findClass_of_methodNamed B.named, fun w h => hts w (List.mem_cons_of_mem _ h)⟩, hK, hS, fun q h => Or.inr h⟩ B.returns B.notSynchronized (name_of_methodNamed B.named B.method).1 rfl ⟨hP, hD.self, va_S.rf⟩ hl
end RW
end
section
/-! rows over small whole numbers; a method's beginning by the kind of its end -/
section RN
variable {p : Program} {l : Launch} {e : Env} {R : Room} {s : State} {m : MethodId} {args : Array Value} {below : List Frame} {meth : Method} {c : Code} {H : Heap} {locs : List Loc} {cells slots : Nat} {Q : State → Prop}
variable {cc : ByteArray} {pc : Nat} {ls : Array Slot} {rest : List Value} {x y : Int32} {i j : Nat}
theorem n_addN (i j : Nat) : nI i + nI j = nI (i + j) := nI_add i j
theorem r_addN (hx : p.tables.exec = Jvm.exec) (hb : c.code = cc) (i j : Nat) (ex : x = nI i) (ey : y = nI j) (hdg : decode cc pc = .ok (.iadd, 1)) (k : W p l e R s m args below meth c H locs cells slots Q (F0 m (pc + 1) ls (.int (nI (i + j)) :: rest))) : W p l e R s m args below meth c H locs cells slots Q (F0 m pc ls (.int y :: .int x :: rest)) := by
  subst ex; subst ey
  exact lv_iadd hx hb hdg (by rw [nI_add]; exact k)
theorem r_mulN (hx : p.tables.exec = Jvm.exec) (hb : c.code = cc) (i j : Nat) (ex : x = nI i) (ey : y = nI j) (hdg : decode cc pc = .ok (.imul, 1)) (k : W p l e R s m args below meth c H locs cells slots Q (F0 m (pc + 1) ls (.int (nI (i * j)) :: rest))) : W p l e R s m args below meth c H locs cells slots Q (F0 m pc ls (.int y :: .int x :: rest)) := by
  subst ex; subst ey
  exact lv_imul hx hb hdg (by rw [pk_mul]; exact k)
theorem r_subN (hx : p.tables.exec = Jvm.exec) (hb : c.code = cc) (i j : Nat) (ex : x = nI i) (ey : y = nI j) (h : j ≤ i) (hdg : decode cc pc = .ok (.isub, 1)) (k : W p l e R s m args below meth c H locs cells slots Q (F0 m (pc + 1) ls (.int (nI (i - j)) :: rest))) : W p l e R s m args below meth c H locs cells slots Q (F0 m pc ls (.int y :: .int x :: rest)) := by
  subst ex; subst ey
  exact lv_isub hx hb hdg (by rw [pk_sub h]; exact k)
theorem r_ltN (hx : p.tables.exec = Jvm.exec) (hb : c.code = cc) (i j : Nat) {off : Int} {tgt : Nat} (ex : x = nI i) (ey : y = nI j) (hi : i < 2 ^ 31) (hj : j < 2 ^ 31) (hdg : decode cc pc = .ok (.if_icmp .lt off, 3)) (ht : (pc : Int) + off = (tgt : Int)) (kt : i < j → W p l e R s m args below meth c H locs cells slots Q (F0 m tgt ls rest)) (kf : j ≤ i → W p l e R s m args below meth c H locs cells slots Q (F0 m (pc + 3) ls rest)) : W p l e R s m args below meth c H locs cells slots Q (F0 m pc ls (.int y :: .int x :: rest)) := by
  subst ex; subst ey
  exact lv_icmp_lt hx hb hdg ht (fun h => kt ((nI_ltI hi hj).mp h)) (fun h => kf (Nat.not_lt.mp fun q => h ((nI_ltI hi hj).mpr q)))
theorem r_geN (hx : p.tables.exec = Jvm.exec) (hb : c.code = cc) (i j : Nat) {off : Int} {tgt : Nat} (ex : x = nI i) (ey : y = nI j) (hi : i < 2 ^ 31) (hj : j < 2 ^ 31) (hdg : decode cc pc = .ok (.if_icmp .ge off, 3)) (ht : (pc : Int) + off = (tgt : Int)) (kt : j ≤ i → W p l e R s m args below meth c H locs cells slots Q (F0 m tgt ls rest)) (kf : i < j → W p l e R s m args below meth c H locs cells slots Q (F0 m (pc + 3) ls rest)) : W p l e R s m args below meth c H locs cells slots Q (F0 m pc ls (.int y :: .int x :: rest)) := by
  subst ex; subst ey
  exact lv_icmp_ge hx hb hdg ht (fun h => kt ((nI_leI hj hi).mp h)) (fun h => kf (Nat.not_le.mp fun q => h ((nI_leI hj hi).mpr q)))
theorem r_gtN (hx : p.tables.exec = Jvm.exec) (hb : c.code = cc) (i j : Nat) {off : Int} {tgt : Nat} (ex : x = nI i) (ey : y = nI j) (hi : i < 2 ^ 31) (hj : j < 2 ^ 31) (hdg : decode cc pc = .ok (.if_icmp .gt off, 3)) (ht : (pc : Int) + off = (tgt : Int)) (kt : j < i → W p l e R s m args below meth c H locs cells slots Q (F0 m tgt ls rest)) (kf : i ≤ j → W p l e R s m args below meth c H locs cells slots Q (F0 m (pc + 3) ls rest)) : W p l e R s m args below meth c H locs cells slots Q (F0 m pc ls (.int y :: .int x :: rest)) := by
  subst ex; subst ey
  exact lv_icmp_gt hx hb hdg ht (fun h => kt ((nI_ltI hj hi).mp h)) (fun h => kf (Nat.not_lt.mp fun q => h ((nI_ltI hj hi).mpr q)))
theorem r_leN (hx : p.tables.exec = Jvm.exec) (hb : c.code = cc) (i j : Nat) {off : Int} {tgt : Nat} (ex : x = nI i) (ey : y = nI j) (hi : i < 2 ^ 31) (hj : j < 2 ^ 31) (hdg : decode cc pc = .ok (.if_icmp .le off, 3)) (ht : (pc : Int) + off = (tgt : Int)) (kt : i ≤ j → W p l e R s m args below meth c H locs cells slots Q (F0 m tgt ls rest)) (kf : j < i → W p l e R s m args below meth c H locs cells slots Q (F0 m (pc + 3) ls rest)) : W p l e R s m args below meth c H locs cells slots Q (F0 m pc ls (.int y :: .int x :: rest)) := by
  subst ex; subst ey
  exact lv_icmp_le hx hb hdg ht (fun h => kt ((nI_leI hi hj).mp h)) (fun h => kf (Nat.not_le.mp fun q => h ((nI_leI hi hj).mpr q)))
theorem r_eqN (hx : p.tables.exec = Jvm.exec) (hb : c.code = cc) (i j : Nat) {off : Int} {tgt : Nat} (ex : x = nI i) (ey : y = nI j) (hi : i < 2 ^ 31) (hj : j < 2 ^ 31) (hdg : decode cc pc = .ok (.if_icmp .eq off, 3)) (ht : (pc : Int) + off = (tgt : Int)) (kt : i = j → W p l e R s m args below meth c H locs cells slots Q (F0 m tgt ls rest)) (kf : ¬ i = j → W p l e R s m args below meth c H locs cells slots Q (F0 m (pc + 3) ls rest)) : W p l e R s m args below meth c H locs cells slots Q (F0 m pc ls (.int y :: .int x :: rest)) := by
  subst ex; subst ey
  exact lv_icmp_eq hx hb hdg ht (fun h => kt ((nI_eq hi hj).mp h)) (fun h => kf (fun q => h ((nI_eq hi hj).mpr q)))
theorem r_neN (hx : p.tables.exec = Jvm.exec) (hb : c.code = cc) (i j : Nat) {off : Int} {tgt : Nat} (ex : x = nI i) (ey : y = nI j) (hi : i < 2 ^ 31) (hj : j < 2 ^ 31) (hdg : decode cc pc = .ok (.if_icmp .ne off, 3)) (ht : (pc : Int) + off = (tgt : Int)) (kt : ¬ i = j → W p l e R s m args below meth c H locs cells slots Q (F0 m tgt ls rest)) (kf : i = j → W p l e R s m args below meth c H locs cells slots Q (F0 m (pc + 3) ls rest)) : W p l e R s m args below meth c H locs cells slots Q (F0 m pc ls (.int y :: .int x :: rest)) := by
  subst ex; subst ey
  exact lv_icmp_ne hx hb hdg ht (fun h => kt (fun q => h ((nI_eq hi hj).mpr q))) (fun h => kf ((nI_eq hi hj).mp h))
theorem r_if0N (hx : p.tables.exec = Jvm.exec) (hb : c.code = cc) (i : Nat) {off : Int} {tgt : Nat} (ex : x = nI i) (hi : i < 2 ^ 31) (hdg : decode cc pc = .ok (.ifCond .eq off, 3)) (ht : (pc : Int) + off = (tgt : Int)) (kt : i = 0 → W p l e R s m args below meth c H locs cells slots Q (F0 m tgt ls rest)) (kf : ¬ i = 0 → W p l e R s m args below meth c H locs cells slots Q (F0 m (pc + 3) ls rest)) : W p l e R s m args below meth c H locs cells slots Q (F0 m pc ls (.int x :: rest)) := by
  subst ex
  exact lv_if_eq hx hb hdg ht (fun h => kt ((nI_eq hi (by decide)).mp h)) (fun h => kf (fun q => h (by rw [q]; rfl)))
theorem r_ifn0N (hx : p.tables.exec = Jvm.exec) (hb : c.code = cc) (i : Nat) {off : Int} {tgt : Nat} (ex : x = nI i) (hi : i < 2 ^ 31) (hdg : decode cc pc = .ok (.ifCond .ne off, 3)) (ht : (pc : Int) + off = (tgt : Int)) (kt : ¬ i = 0 → W p l e R s m args below meth c H locs cells slots Q (F0 m tgt ls rest)) (kf : i = 0 → W p l e R s m args below meth c H locs cells slots Q (F0 m (pc + 3) ls rest)) : W p l e R s m args below meth c H locs cells slots Q (F0 m pc ls (.int x :: rest)) := by
  subst ex
  exact lv_if_ne hx hb hdg ht (fun h => kt (fun q => h (by rw [q]; rfl))) (fun h => kf ((nI_eq hi (by decide)).mp h))
theorem r_iincN (hx : p.tables.exec = Jvm.exec) (hb : c.code = cc) {v nL k : Nat} {n : Int} {lv lv' : List (Nat × Value)} (i d : Nat) (hn : n = (d : Int)) (hdg : decode cc pc = .ok (.iinc v n, 3)) (h : lv_has ls nL lv) (hk : lv[k]? = some (v, .int x)) (ex : x = nI i) (hv : v < nL) (hl : (v, Value.int (nI (i + d))) :: lv.filter (fun q => !(q.1 == v) && !(q.1 + 1 == v && q.2.category == 2)) = lv')
    (kk : ∀ ls' : Array Slot, lv_has ls' nL lv' → W p l e R s m args below meth c H locs cells slots Q (F0 m (pc + 3) ls' rest)) : W p l e R s m args below meth c H locs cells slots Q (F0 m pc ls rest) := by
  subst ex; subst hn
  exact lv_iinc hx hb (k := k) hdg h hk (v := nI (i + d)) (by rw [show Int32.ofInt (d : Int) = nI d from rfl]; exact nI_add i d) hv hl kk
/-- tableswitch at a number that is named -/
theorem r_tabIn (hx : p.tables.exec = Jvm.exec) (hb : c.code = cc) {dflt lo hi : Int} {offs : Array Int} {len : Nat} (kv : Int32) {off : Int} {tgt : Nat} (ex : x = kv) (hdg : decode cc pc = .ok (.tableswitch dflt lo hi offs, len)) (h1 : ¬ kv.toInt < lo) (h2 : ¬ hi < kv.toInt) (ho : offs[(kv.toInt - lo).toNat]? = some off) (ht : (pc : Int) + off = (tgt : Int)) (k : W p l e R s m args below meth c H locs cells slots Q (F0 m tgt ls rest)) : W p l e R s m args below meth c H locs cells slots Q (F0 m pc ls (.int x :: rest)) := by
  subst ex
  exact lv_tableIn hx hb hdg h1 h2 ho ht k
theorem r_lookIn (hx : p.tables.exec = Jvm.exec) (hb : c.code = cc) {dflt : Int} {ps : Array (Int × Int)} {len : Nat} (kv : Int32) {off : Int} {tgt : Nat} (ex : x = kv) (hdg : decode cc pc = .ok (.lookupswitch dflt ps, len)) (hp : (ps.toList.zip (ps.toList.drop 1)).all (fun (a, next) => a.1 < next.1) = true) (ho : Op.lookupswitch.offset ps.toList dflt kv.toInt = off) (ht : (pc : Int) + off = (tgt : Int)) (k : W p l e R s m args below meth c H locs cells slots Q (F0 m tgt ls rest)) : W p l e R s m args below meth c H locs cells slots Q (F0 m pc ls (.int x :: rest)) := by
  subst ex
  exact lv_lookup hx hb hdg hp ho ht k
end RN
theorem i_ne {x k : Int32} (h : ¬ x = k) : ¬ x.toInt = k.toInt := fun q => h (Int32.toInt_inj.mp q)
theorem ui_of {ws : List Cond} (ps : List Nat) (h : ws = ps.filterMap (fun i => lw_tbl[i]?)) (g : ws.all goodWord = true) : ∀ w, w ∈ ws → w ∈ lw_all := fun w hw => by
  refine List.mem_filter.mpr ⟨?_, List.all_eq_true.mp g w hw⟩
  rw [h] at hw
  obtain ⟨i, -, hi⟩ := List.mem_filterMap.mp hw
  exact List.mem_of_getElem? hi
section REN
variable {l : Launch} {D : va_G} {y : MethodName} {cy : ByteArray} {ny fr lo sz : Nat} {As : List Value} {b : va_W}
theorem r_enterI {ret : Option FieldType} {r : Int32} {b' : va_W} (hy : plainName y.cls = true) (hlen : (lg_sl As).length ≤ ny)
    (body : ∀ (p : Program) (e : Env) (s : State) (m : MethodId) (args : Array Value) (below : List Frame) (meth : Method) (c : Code) (ls : Array Slot) (A : Nat → Prop), CX D p m c cy ny s args y.cls A → meth.sig.returnType = ret → meth.locks = false → Wd D A s.heap s.heap [] b → lv_has ls ny (lv_args 0 As) →
      W p l e (rmOf fr 0 0 lo) s m args below meth c s.heap [] 0 0 (QI below args s D A r b') (F0 m 0 ls [])) : MI l y cy ny ret fr lo D sz As b r b' :=
  r_enter hy hlen (fun p e s m args below meth c ls X hr hk _ _ w hl => body p e s m args below meth c ls _ X hr hk w hl)
theorem r_enterV {b' : va_W} (hy : plainName y.cls = true) (hlen : (lg_sl As).length ≤ ny)
    (body : ∀ (p : Program) (e : Env) (s : State) (m : MethodId) (args : Array Value) (below : List Frame) (meth : Method) (c : Code) (ls : Array Slot) (A : Nat → Prop), CX D p m c cy ny s args y.cls A → meth.sig.returnType = none → meth.locks = false → Wd D A s.heap s.heap [] b → lv_has ls ny (lv_args 0 As) →
      W p l e (rmOf fr 0 0 lo) s m args below meth c s.heap [] 0 0 (QV below args s D A b') (F0 m 0 ls [])) : MV l y cy ny fr lo D sz As b b' :=
  r_enter hy hlen (fun p e s m args below meth c ls X hr hk _ _ w hl => body p e s m args below meth c ls _ X hr hk w hl)
theorem r_enterIU {S : Type} {ret : Option FieldType} {r : Int32} {post : S → Prop} {b' : S → va_W} (hy : plainName y.cls = true) (hlen : (lg_sl As).length ≤ ny)
    (body : ∀ (p : Program) (e : Env) (s : State) (m : MethodId) (args : Array Value) (below : List Frame) (meth : Method) (c : Code) (ls : Array Slot) (A : Nat → Prop), CX D p m c cy ny s args y.cls A → meth.sig.returnType = ret → meth.locks = false → Wd D A s.heap s.heap [] b → lv_has ls ny (lv_args 0 As) →
      W p l e (rmOf fr 0 0 lo) s m args below meth c s.heap [] 0 0 (QIU below args s D A r post b') (F0 m 0 ls [])) : MIU l y cy ny ret fr lo D sz As b r post b' :=
  r_enter hy hlen (fun p e s m args below meth c ls X hr hk _ _ w hl => body p e s m args below meth c ls _ X hr hk w hl)
theorem r_enterVU {S : Type} {post : S → Prop} {b' : S → va_W} (hy : plainName y.cls = true) (hlen : (lg_sl As).length ≤ ny)
    (body : ∀ (p : Program) (e : Env) (s : State) (m : MethodId) (args : Array Value) (below : List Frame) (meth : Method) (c : Code) (ls : Array Slot) (A : Nat → Prop), CX D p m c cy ny s args y.cls A → meth.sig.returnType = none → meth.locks = false → Wd D A s.heap s.heap [] b → lv_has ls ny (lv_args 0 As) →
      W p l e (rmOf fr 0 0 lo) s m args below meth c s.heap [] 0 0 (QVU below args s D A post b') (F0 m 0 ls [])) : MVU l y cy ny fr lo D sz As b post b' :=
  r_enter hy hlen (fun p e s m args below meth c ls X hr hk _ _ w hl => body p e s m args below meth c ls _ X hr hk w hl)
end REN
end
section
/-! by program: what each instruction links, out of the tables -/
theorem ui_X0 : ∀ w, w ∈ u_ws RX0 TX0 5 → w ∈ lw_all := ui_of [111, 113, 115, 117, 119] (by decide +kernel) (by decide +kernel)
theorem ui_X1 : ∀ w, w ∈ u_ws RX1 TX1 4 → w ∈ lw_all := ui_of [199, 201, 203, 205] (by decide +kernel) (by decide +kernel)
theorem ui_X2 : ∀ w, w ∈ u_ws RX2 TX2 3 → w ∈ lw_all := ui_of [133, 135, 137] (by decide +kernel) (by decide +kernel)
theorem ui_X3 : ∀ w, w ∈ u_ws RX3 TX3 11 → w ∈ lw_all := ui_of [164, 166, 168, 170, 172, 174, 176, 178, 180, 182, 184] (by decide +kernel) (by decide +kernel)
theorem ui_X4 : ∀ w, w ∈ u_ws RX4 TX4 4 → w ∈ lw_all := ui_of [222, 224, 226, 228] (by decide +kernel) (by decide +kernel)
theorem ui_X5 : ∀ w, w ∈ u_ws RX5 TX5 4 → w ∈ lw_all := ui_of [83, 85, 87, 89] (by decide +kernel) (by decide +kernel)
theorem ui_X6 : ∀ w, w ∈ u_ws RX6 TX6 8 → w ∈ lw_all := ui_of [240, 242, 244, 246, 248, 250, 252, 254] (by decide +kernel) (by decide +kernel)
theorem ui_X7 : ∀ w, w ∈ u_ws RX7 TX7 19 → w ∈ lw_all := ui_of [640, 642, 644, 646, 648, 650, 652, 654, 656, 658, 660, 662, 664, 666, 668, 670, 672, 674, 676] (by decide +kernel) (by decide +kernel)
theorem fw_X0_11 : Cond.fieldLink RX0 11 (TX0 0).1 (TX0 0).2.1 (TX0 0).2.2.1 ∈ lw_all := in_all 101 (by decide +kernel) rfl
theorem fl_X0_11 : FL RX0 11 0 0 := ⟨RX0, TX0, 5, ui_X0, rfl, by decide, fw_X0_11⟩
theorem fp_X0_11 : FP RX0 11 0 0 (.array (.array .int)) true := ⟨RX0, TX0, 5, tyX0, ui_X0, rfl, by decide, fw_X0_11, tyX0_ok, nmX0, rfl, by decide +kernel, fun h => by first | rfl | cases h⟩
theorem fw_X0_16 : Cond.fieldLink RX0 16 (TX0 1).1 (TX0 1).2.1 (TX0 1).2.2.1 ∈ lw_all := in_all 103 (by decide +kernel) rfl
theorem fl_X0_16 : FL RX0 16 0 1 := ⟨RX0, TX0, 5, ui_X0, rfl, by decide, fw_X0_16⟩
theorem fp_X0_16 : FP RX0 16 0 1 (.array .int) true := ⟨RX0, TX0, 5, tyX0, ui_X0, rfl, by decide, fw_X0_16, tyX0_ok, nmX0, rfl, by decide +kernel, fun h => by first | rfl | cases h⟩
theorem fw_X0_20 : Cond.fieldLink RX0 20 (TX0 2).1 (TX0 2).2.1 (TX0 2).2.2.1 ∈ lw_all := in_all 105 (by decide +kernel) rfl
theorem fl_X0_20 : FL RX0 20 0 2 := ⟨RX0, TX0, 5, ui_X0, rfl, by decide, fw_X0_20⟩
theorem fp_X0_20 : FP RX0 20 0 2 (.array .int) true := ⟨RX0, TX0, 5, tyX0, ui_X0, rfl, by decide, fw_X0_20, tyX0_ok, nmX0, rfl, by decide +kernel, fun h => by first | rfl | cases h⟩
theorem fw_X0_29 : Cond.fieldLink RX0 29 (TX0 3).1 (TX0 3).2.1 (TX0 3).2.2.1 ∈ lw_all := in_all 107 (by decide +kernel) rfl
theorem fl_X0_29 : FL RX0 29 0 3 := ⟨RX0, TX0, 5, ui_X0, rfl, by decide, fw_X0_29⟩
theorem fp_X0_29 : FP RX0 29 0 3 .int false := ⟨RX0, TX0, 5, tyX0, ui_X0, rfl, by decide, fw_X0_29, tyX0_ok, nmX0, rfl, by decide +kernel, fun h => by first | rfl | cases h⟩
theorem fw_X0_33 : Cond.fieldLink RX0 33 (TX0 4).1 (TX0 4).2.1 (TX0 4).2.2.1 ∈ lw_all := in_all 109 (by decide +kernel) rfl
theorem fl_X0_33 : FL RX0 33 0 4 := ⟨RX0, TX0, 5, ui_X0, rfl, by decide, fw_X0_33⟩
theorem fp_X0_33 : FP RX0 33 0 4 .int false := ⟨RX0, TX0, 5, tyX0, ui_X0, rfl, by decide, fw_X0_33, tyX0_ok, nmX0, rfl, by decide +kernel, fun h => by first | rfl | cases h⟩
theorem fw_X0_40 : Cond.fieldLink RX0 40 (TX5 0).1 (TX5 0).2.1 (TX5 0).2.2.1 ∈ lw_all := in_all 76 (by decide +kernel) rfl
theorem fl_X0_40 : FL RX0 40 5 0 := ⟨RX5, TX5, 4, ui_X5, rfl, by decide, fw_X0_40⟩
theorem fw_X1_9 : Cond.fieldLink RX1 9 (TX1 0).1 (TX1 0).2.1 (TX1 0).2.2.1 ∈ lw_all := in_all 194 (by decide +kernel) rfl
theorem fl_X1_9 : FL RX1 9 1 0 := ⟨RX1, TX1, 4, ui_X1, rfl, by decide, fw_X1_9⟩
theorem fp_X1_9 : FP RX1 9 1 0 (.array .int) true := ⟨RX1, TX1, 4, tyX1, ui_X1, rfl, by decide, fw_X1_9, tyX1_ok, nmX1, rfl, by decide +kernel, fun h => by first | rfl | cases h⟩
theorem fw_X1_15 : Cond.fieldLink RX1 15 (TX1 1).1 (TX1 1).2.1 (TX1 1).2.2.1 ∈ lw_all := in_all 196 (by decide +kernel) rfl
theorem fl_X1_15 : FL RX1 15 1 1 := ⟨RX1, TX1, 4, ui_X1, rfl, by decide, fw_X1_15⟩
theorem fp_X1_15 : FP RX1 15 1 1 (.array .int) true := ⟨RX1, TX1, 4, tyX1, ui_X1, rfl, by decide, fw_X1_15, tyX1_ok, nmX1, rfl, by decide +kernel, fun h => by first | rfl | cases h⟩
theorem fw_X1_20 : Cond.fieldLink RX1 20 (TX1 2).1 (TX1 2).2.1 (TX1 2).2.2.1 ∈ lw_all := in_all 197 (by decide +kernel) rfl
theorem fl_X1_20 : FL RX1 20 1 2 := ⟨RX1, TX1, 4, ui_X1, rfl, by decide, fw_X1_20⟩
theorem fp_X1_20 : FP RX1 20 1 2 (.array (.array .int)) true := ⟨RX1, TX1, 4, tyX1, ui_X1, rfl, by decide, fw_X1_20, tyX1_ok, nmX1, rfl, by decide +kernel, fun h => by first | rfl | cases h⟩
theorem fw_X1_23 : Cond.fieldLink RX1 23 (TX3 0).1 (TX3 0).2.1 (TX3 0).2.2.1 ∈ lw_all := in_all 141 (by decide +kernel) rfl
theorem fl_X1_23 : FL RX1 23 3 0 := ⟨RX3, TX3, 11, ui_X3, rfl, by decide, fw_X1_23⟩
theorem fw_X1_33 : Cond.fieldLink RX1 33 (TX3 3).1 (TX3 3).2.1 (TX3 3).2.2.1 ∈ lw_all := in_all 148 (by decide +kernel) rfl
theorem fl_X1_33 : FL RX1 33 3 3 := ⟨RX3, TX3, 11, ui_X3, rfl, by decide, fw_X1_33⟩
theorem fw_X1_62 : Cond.fieldLink RX1 62 (TX1 3).1 (TX1 3).2.1 (TX1 3).2.2.1 ∈ lw_all := in_all 198 (by decide +kernel) rfl
theorem fl_X1_62 : FL RX1 62 1 3 := ⟨RX1, TX1, 4, ui_X1, rfl, by decide, fw_X1_62⟩
theorem fp_X1_62 : FP RX1 62 1 3 .int false := ⟨RX1, TX1, 4, tyX1, ui_X1, rfl, by decide, fw_X1_62, tyX1_ok, nmX1, rfl, by decide +kernel, fun h => by first | rfl | cases h⟩
theorem fw_X1_69 : Cond.fieldLink RX1 69 (TX5 0).1 (TX5 0).2.1 (TX5 0).2.2.1 ∈ lw_all := in_all 74 (by decide +kernel) rfl
theorem fl_X1_69 : FL RX1 69 5 0 := ⟨RX5, TX5, 4, ui_X5, rfl, by decide, fw_X1_69⟩
theorem fw_X2_11 : Cond.fieldLink RX2 11 (TX2 0).1 (TX2 0).2.1 (TX2 0).2.2.1 ∈ lw_all := in_all 129 (by decide +kernel) rfl
theorem fl_X2_11 : FL RX2 11 2 0 := ⟨RX2, TX2, 3, ui_X2, rfl, by decide, fw_X2_11⟩
theorem fp_X2_11 : FP RX2 11 2 0 (.array (.array .int)) true := ⟨RX2, TX2, 3, tyX2, ui_X2, rfl, by decide, fw_X2_11, tyX2_ok, nmX2, rfl, by decide +kernel, fun h => by first | rfl | cases h⟩
theorem fw_X2_22 : Cond.fieldLink RX2 22 (TX2 1).1 (TX2 1).2.1 (TX2 1).2.2.1 ∈ lw_all := in_all 130 (by decide +kernel) rfl
theorem fl_X2_22 : FL RX2 22 2 1 := ⟨RX2, TX2, 3, ui_X2, rfl, by decide, fw_X2_22⟩
theorem fp_X2_22 : FP RX2 22 2 1 .int false := ⟨RX2, TX2, 3, tyX2, ui_X2, rfl, by decide, fw_X2_22, tyX2_ok, nmX2, rfl, by decide +kernel, fun h => by first | rfl | cases h⟩
theorem fw_X2_26 : Cond.fieldLink RX2 26 (TX2 2).1 (TX2 2).2.1 (TX2 2).2.2.1 ∈ lw_all := in_all 131 (by decide +kernel) rfl
theorem fl_X2_26 : FL RX2 26 2 2 := ⟨RX2, TX2, 3, ui_X2, rfl, by decide, fw_X2_26⟩
theorem fp_X2_26 : FP RX2 26 2 2 .int false := ⟨RX2, TX2, 3, tyX2, ui_X2, rfl, by decide, fw_X2_26, tyX2_ok, nmX2, rfl, by decide +kernel, fun h => by first | rfl | cases h⟩
theorem fw_X3_12 : Cond.fieldLink RX3 12 (TX3 0).1 (TX3 0).2.1 (TX3 0).2.2.1 ∈ lw_all := in_all 140 (by decide +kernel) rfl
theorem fl_X3_12 : FL RX3 12 3 0 := ⟨RX3, TX3, 11, ui_X3, rfl, by decide, fw_X3_12⟩
theorem fp_X3_12 : FP RX3 12 3 0 (.object "RollingDigits$Registers") true := ⟨RX3, TX3, 11, tyX3, ui_X3, rfl, by decide, fw_X3_12, tyX3_ok, nmX3, rfl, by decide +kernel, fun h => by first | rfl | cases h⟩
theorem fw_X3_21 : Cond.fieldLink RX3 21 (TX3 1).1 (TX3 1).2.1 (TX3 1).2.2.1 ∈ lw_all := in_all 143 (by decide +kernel) rfl
theorem fl_X3_21 : FL RX3 21 3 1 := ⟨RX3, TX3, 11, ui_X3, rfl, by decide, fw_X3_21⟩
theorem fp_X3_21 : FP RX3 21 3 1 (.object "RollingDigits$Alarms") true := ⟨RX3, TX3, 11, tyX3, ui_X3, rfl, by decide, fw_X3_21, tyX3_ok, nmX3, rfl, by decide +kernel, fun h => by first | rfl | cases h⟩
theorem fw_X3_28 : Cond.fieldLink RX3 28 (TX3 2).1 (TX3 2).2.1 (TX3 2).2.2.1 ∈ lw_all := in_all 145 (by decide +kernel) rfl
theorem fl_X3_28 : FL RX3 28 3 2 := ⟨RX3, TX3, 11, ui_X3, rfl, by decide, fw_X3_28⟩
theorem fp_X3_28 : FP RX3 28 3 2 (.object "RollingDigits$BurstLog") true := ⟨RX3, TX3, 11, tyX3, ui_X3, rfl, by decide, fw_X3_28, tyX3_ok, nmX3, rfl, by decide +kernel, fun h => by first | rfl | cases h⟩
theorem fw_X3_32 : Cond.fieldLink RX3 32 (TX3 3).1 (TX3 3).2.1 (TX3 3).2.2.1 ∈ lw_all := in_all 147 (by decide +kernel) rfl
theorem fl_X3_32 : FL RX3 32 3 3 := ⟨RX3, TX3, 11, ui_X3, rfl, by decide, fw_X3_32⟩
theorem fp_X3_32 : FP RX3 32 3 3 (.array .int) true := ⟨RX3, TX3, 11, tyX3, ui_X3, rfl, by decide, fw_X3_32, tyX3_ok, nmX3, rfl, by decide +kernel, fun h => by first | rfl | cases h⟩
theorem fw_X3_52 : Cond.fieldLink RX3 52 (TX3 4).1 (TX3 4).2.1 (TX3 4).2.2.1 ∈ lw_all := in_all 150 (by decide +kernel) rfl
theorem fl_X3_52 : FL RX3 52 3 4 := ⟨RX3, TX3, 11, ui_X3, rfl, by decide, fw_X3_52⟩
theorem fp_X3_52 : FP RX3 52 3 4 .int false := ⟨RX3, TX3, 11, tyX3, ui_X3, rfl, by decide, fw_X3_52, tyX3_ok, nmX3, rfl, by decide +kernel, fun h => by first | rfl | cases h⟩
theorem fw_X3_56 : Cond.fieldLink RX3 56 (TX3 5).1 (TX3 5).2.1 (TX3 5).2.2.1 ∈ lw_all := in_all 152 (by decide +kernel) rfl
theorem fl_X3_56 : FL RX3 56 3 5 := ⟨RX3, TX3, 11, ui_X3, rfl, by decide, fw_X3_56⟩
theorem fp_X3_56 : FP RX3 56 3 5 .int false := ⟨RX3, TX3, 11, tyX3, ui_X3, rfl, by decide, fw_X3_56, tyX3_ok, nmX3, rfl, by decide +kernel, fun h => by first | rfl | cases h⟩
theorem fw_X3_59 : Cond.fieldLink RX3 59 (TX3 6).1 (TX3 6).2.1 (TX3 6).2.2.1 ∈ lw_all := in_all 154 (by decide +kernel) rfl
theorem fl_X3_59 : FL RX3 59 3 6 := ⟨RX3, TX3, 11, ui_X3, rfl, by decide, fw_X3_59⟩
theorem fp_X3_59 : FP RX3 59 3 6 .int false := ⟨RX3, TX3, 11, tyX3, ui_X3, rfl, by decide, fw_X3_59, tyX3_ok, nmX3, rfl, by decide +kernel, fun h => by first | rfl | cases h⟩
theorem fw_X3_62 : Cond.fieldLink RX3 62 (TX3 7).1 (TX3 7).2.1 (TX3 7).2.2.1 ∈ lw_all := in_all 156 (by decide +kernel) rfl
theorem fl_X3_62 : FL RX3 62 3 7 := ⟨RX3, TX3, 11, ui_X3, rfl, by decide, fw_X3_62⟩
theorem fp_X3_62 : FP RX3 62 3 7 .int false := ⟨RX3, TX3, 11, tyX3, ui_X3, rfl, by decide, fw_X3_62, tyX3_ok, nmX3, rfl, by decide +kernel, fun h => by first | rfl | cases h⟩
theorem fw_X3_65 : Cond.fieldLink RX3 65 (TX3 8).1 (TX3 8).2.1 (TX3 8).2.2.1 ∈ lw_all := in_all 158 (by decide +kernel) rfl
theorem fl_X3_65 : FL RX3 65 3 8 := ⟨RX3, TX3, 11, ui_X3, rfl, by decide, fw_X3_65⟩
theorem fp_X3_65 : FP RX3 65 3 8 .int false := ⟨RX3, TX3, 11, tyX3, ui_X3, rfl, by decide, fw_X3_65, tyX3_ok, nmX3, rfl, by decide +kernel, fun h => by first | rfl | cases h⟩
theorem fw_X3_68 : Cond.fieldLink RX3 68 (TX3 9).1 (TX3 9).2.1 (TX3 9).2.2.1 ∈ lw_all := in_all 160 (by decide +kernel) rfl
theorem fl_X3_68 : FL RX3 68 3 9 := ⟨RX3, TX3, 11, ui_X3, rfl, by decide, fw_X3_68⟩
theorem fp_X3_68 : FP RX3 68 3 9 .int false := ⟨RX3, TX3, 11, tyX3, ui_X3, rfl, by decide, fw_X3_68, tyX3_ok, nmX3, rfl, by decide +kernel, fun h => by first | rfl | cases h⟩
theorem fw_X3_71 : Cond.fieldLink RX3 71 (TX3 10).1 (TX3 10).2.1 (TX3 10).2.2.1 ∈ lw_all := in_all 162 (by decide +kernel) rfl
theorem fl_X3_71 : FL RX3 71 3 10 := ⟨RX3, TX3, 11, ui_X3, rfl, by decide, fw_X3_71⟩
theorem fp_X3_71 : FP RX3 71 3 10 .int false := ⟨RX3, TX3, 11, tyX3, ui_X3, rfl, by decide, fw_X3_71, tyX3_ok, nmX3, rfl, by decide +kernel, fun h => by first | rfl | cases h⟩
theorem fw_X3_84 : Cond.fieldLink RX3 84 (TX5 0).1 (TX5 0).2.1 (TX5 0).2.2.1 ∈ lw_all := in_all 75 (by decide +kernel) rfl
theorem fl_X3_84 : FL RX3 84 5 0 := ⟨RX5, TX5, 4, ui_X5, rfl, by decide, fw_X3_84⟩
theorem fw_X4_9 : Cond.fieldLink RX4 9 (TX4 0).1 (TX4 0).2.1 (TX4 0).2.2.1 ∈ lw_all := in_all 214 (by decide +kernel) rfl
theorem fl_X4_9 : FL RX4 9 4 0 := ⟨RX4, TX4, 4, ui_X4, rfl, by decide, fw_X4_9⟩
theorem fp_X4_9 : FP RX4 9 4 0 (.array .int) true := ⟨RX4, TX4, 4, tyX4, ui_X4, rfl, by decide, fw_X4_9, tyX4_ok, nmX4, rfl, by decide +kernel, fun h => by first | rfl | cases h⟩
theorem fw_X4_13 : Cond.fieldLink RX4 13 (TX4 1).1 (TX4 1).2.1 (TX4 1).2.2.1 ∈ lw_all := in_all 216 (by decide +kernel) rfl
theorem fl_X4_13 : FL RX4 13 4 1 := ⟨RX4, TX4, 4, ui_X4, rfl, by decide, fw_X4_13⟩
theorem fp_X4_13 : FP RX4 13 4 1 .char false := ⟨RX4, TX4, 4, tyX4, ui_X4, rfl, by decide, fw_X4_13, tyX4_ok, nmX4, rfl, by decide +kernel, fun h => by first | rfl | cases h⟩
theorem fw_X4_21 : Cond.fieldLink RX4 21 (TX4 2).1 (TX4 2).2.1 (TX4 2).2.2.1 ∈ lw_all := in_all 218 (by decide +kernel) rfl
theorem fl_X4_21 : FL RX4 21 4 2 := ⟨RX4, TX4, 4, ui_X4, rfl, by decide, fw_X4_21⟩
theorem fp_X4_21 : FP RX4 21 4 2 .boolean false := ⟨RX4, TX4, 4, tyX4, ui_X4, rfl, by decide, fw_X4_21, tyX4_ok, nmX4, rfl, by decide +kernel, fun h => by first | rfl | cases h⟩
theorem fw_X4_32 : Cond.fieldLink RX4 32 (TX4 3).1 (TX4 3).2.1 (TX4 3).2.2.1 ∈ lw_all := in_all 220 (by decide +kernel) rfl
theorem fp_X4_32 : FP RX4 32 4 3 .int false := ⟨RX4, TX4, 4, tyX4, ui_X4, rfl, by decide, fw_X4_32, tyX4_ok, nmX4, rfl, by decide +kernel, fun h => by first | rfl | cases h⟩
theorem fw_X5_9 : Cond.fieldLink RX5 9 (TX5 0).1 (TX5 0).2.1 (TX5 0).2.2.1 ∈ lw_all := in_all 73 (by decide +kernel) rfl
theorem fl_X5_9 : FL RX5 9 5 0 := ⟨RX5, TX5, 4, ui_X5, rfl, by decide, fw_X5_9⟩
theorem fp_X5_9 : FP RX5 9 5 0 (.array .int) true := ⟨RX5, TX5, 4, tyX5, ui_X5, rfl, by decide, fw_X5_9, tyX5_ok, nmX5, rfl, by decide +kernel, fun h => by first | rfl | cases h⟩
theorem fw_X5_15 : Cond.fieldLink RX5 15 (TX5 1).1 (TX5 1).2.1 (TX5 1).2.2.1 ∈ lw_all := in_all 78 (by decide +kernel) rfl
theorem fl_X5_15 : FL RX5 15 5 1 := ⟨RX5, TX5, 4, ui_X5, rfl, by decide, fw_X5_15⟩
theorem fp_X5_15 : FP RX5 15 5 1 (.array .int) true := ⟨RX5, TX5, 4, tyX5, ui_X5, rfl, by decide, fw_X5_15, tyX5_ok, nmX5, rfl, by decide +kernel, fun h => by first | rfl | cases h⟩
theorem fw_X5_18 : Cond.fieldLink RX5 18 (TX5 2).1 (TX5 2).2.1 (TX5 2).2.2.1 ∈ lw_all := in_all 80 (by decide +kernel) rfl
theorem fl_X5_18 : FL RX5 18 5 2 := ⟨RX5, TX5, 4, ui_X5, rfl, by decide, fw_X5_18⟩
theorem fp_X5_18 : FP RX5 18 5 2 (.array .int) true := ⟨RX5, TX5, 4, tyX5, ui_X5, rfl, by decide, fw_X5_18, tyX5_ok, nmX5, rfl, by decide +kernel, fun h => by first | rfl | cases h⟩
theorem fw_X5_21 : Cond.fieldLink RX5 21 (TX5 3).1 (TX5 3).2.1 (TX5 3).2.2.1 ∈ lw_all := in_all 81 (by decide +kernel) rfl
theorem fl_X5_21 : FL RX5 21 5 3 := ⟨RX5, TX5, 4, ui_X5, rfl, by decide, fw_X5_21⟩
theorem fp_X5_21 : FP RX5 21 5 3 (.array .int) true := ⟨RX5, TX5, 4, tyX5, ui_X5, rfl, by decide, fw_X5_21, tyX5_ok, nmX5, rfl, by decide +kernel, fun h => by first | rfl | cases h⟩
theorem fw_X6_10 : Cond.fieldLink RX6 10 (TX6 0).1 (TX6 0).2.1 (TX6 0).2.2.1 ∈ lw_all := in_all 232 (by decide +kernel) rfl
theorem fl_X6_10 : FL RX6 10 6 0 := ⟨RX6, TX6, 8, ui_X6, rfl, by decide, fw_X6_10⟩
theorem fp_X6_10 : FP RX6 10 6 0 (.object "RollingDigits$Chip") true := ⟨RX6, TX6, 8, tyX6, ui_X6, rfl, by decide, fw_X6_10, tyX6_ok, nmX6, rfl, by decide +kernel, fun h => by first | rfl | cases h⟩
theorem fw_X6_16 : Cond.fieldLink RX6 16 (TX6 1).1 (TX6 1).2.1 (TX6 1).2.2.1 ∈ lw_all := in_all 233 (by decide +kernel) rfl
theorem fl_X6_16 : FL RX6 16 6 1 := ⟨RX6, TX6, 8, ui_X6, rfl, by decide, fw_X6_16⟩
theorem fp_X6_16 : FP RX6 16 6 1 (.object "RollingDigits$Chip") true := ⟨RX6, TX6, 8, tyX6, ui_X6, rfl, by decide, fw_X6_16, tyX6_ok, nmX6, rfl, by decide +kernel, fun h => by first | rfl | cases h⟩
theorem fw_X6_22 : Cond.fieldLink RX6 22 (TX6 2).1 (TX6 2).2.1 (TX6 2).2.2.1 ∈ lw_all := in_all 234 (by decide +kernel) rfl
theorem fl_X6_22 : FL RX6 22 6 2 := ⟨RX6, TX6, 8, ui_X6, rfl, by decide, fw_X6_22⟩
theorem fp_X6_22 : FP RX6 22 6 2 (.object "RollingDigits$Burst") true := ⟨RX6, TX6, 8, tyX6, ui_X6, rfl, by decide, fw_X6_22, tyX6_ok, nmX6, rfl, by decide +kernel, fun h => by first | rfl | cases h⟩
theorem fw_X6_29 : Cond.fieldLink RX6 29 (TX6 3).1 (TX6 3).2.1 (TX6 3).2.2.1 ∈ lw_all := in_all 235 (by decide +kernel) rfl
theorem fl_X6_29 : FL RX6 29 6 3 := ⟨RX6, TX6, 8, ui_X6, rfl, by decide, fw_X6_29⟩
theorem fp_X6_29 : FP RX6 29 6 3 (.object "RollingDigits$Order") true := ⟨RX6, TX6, 8, tyX6, ui_X6, rfl, by decide, fw_X6_29, tyX6_ok, nmX6, rfl, by decide +kernel, fun h => by first | rfl | cases h⟩
theorem fw_X6_33 : Cond.fieldLink RX6 33 (TX6 4).1 (TX6 4).2.1 (TX6 4).2.2.1 ∈ lw_all := in_all 236 (by decide +kernel) rfl
theorem fl_X6_33 : FL RX6 33 6 4 := ⟨RX6, TX6, 8, ui_X6, rfl, by decide, fw_X6_33⟩
theorem fp_X6_33 : FP RX6 33 6 4 (.array (.object "RollingDigits$Chip")) true := ⟨RX6, TX6, 8, tyX6, ui_X6, rfl, by decide, fw_X6_33, tyX6_ok, nmX6, rfl, by decide +kernel, fun h => by first | rfl | cases h⟩
theorem fw_X6_37 : Cond.fieldLink RX6 37 (TX6 6).1 (TX6 6).2.1 (TX6 6).2.2.1 ∈ lw_all := in_all 238 (by decide +kernel) rfl
theorem fl_X6_37 : FL RX6 37 6 6 := ⟨RX6, TX6, 8, ui_X6, rfl, by decide, fw_X6_37⟩
theorem fp_X6_37 : FP RX6 37 6 6 (.array .char) true := ⟨RX6, TX6, 8, tyX6, ui_X6, rfl, by decide, fw_X6_37, tyX6_ok, nmX6, rfl, by decide +kernel, fun h => by first | rfl | cases h⟩
theorem fw_X6_68 : Cond.fieldLink RX6 68 (TX1 0).1 (TX1 0).2.1 (TX1 0).2.2.1 ∈ lw_all := in_all 195 (by decide +kernel) rfl
theorem fl_X6_68 : FL RX6 68 1 0 := ⟨RX1, TX1, 4, ui_X1, rfl, by decide, fw_X6_68⟩
theorem fw_X6_82 : Cond.fieldLink RX6 82 (TX3 1).1 (TX3 1).2.1 (TX3 1).2.2.1 ∈ lw_all := in_all 144 (by decide +kernel) rfl
theorem fl_X6_82 : FL RX6 82 3 1 := ⟨RX3, TX3, 11, ui_X3, rfl, by decide, fw_X6_82⟩
theorem fw_X6_101 : Cond.fieldLink RX6 101 (TX0 4).1 (TX0 4).2.1 (TX0 4).2.2.1 ∈ lw_all := in_all 110 (by decide +kernel) rfl
theorem fl_X6_101 : FL RX6 101 0 4 := ⟨RX0, TX0, 5, ui_X0, rfl, by decide, fw_X6_101⟩
theorem fp_X6_101 : FP RX6 101 0 4 .int false := ⟨RX0, TX0, 5, tyX0, ui_X0, rfl, by decide, fw_X6_101, tyX0_ok, nmX0, rfl, by decide +kernel, fun h => by first | rfl | cases h⟩
theorem fw_X6_108 : Cond.fieldLink RX6 108 (TX3 0).1 (TX3 0).2.1 (TX3 0).2.2.1 ∈ lw_all := in_all 142 (by decide +kernel) rfl
theorem fl_X6_108 : FL RX6 108 3 0 := ⟨RX3, TX3, 11, ui_X3, rfl, by decide, fw_X6_108⟩
theorem fw_X6_141 : Cond.fieldLink RX6 141 (TX5 0).1 (TX5 0).2.1 (TX5 0).2.2.1 ∈ lw_all := in_all 77 (by decide +kernel) rfl
theorem fl_X6_141 : FL RX6 141 5 0 := ⟨RX5, TX5, 4, ui_X5, rfl, by decide, fw_X6_141⟩
theorem fw_X6_150 : Cond.fieldLink RX6 150 (TX5 1).1 (TX5 1).2.1 (TX5 1).2.2.1 ∈ lw_all := in_all 79 (by decide +kernel) rfl
theorem fl_X6_150 : FL RX6 150 5 1 := ⟨RX5, TX5, 4, ui_X5, rfl, by decide, fw_X6_150⟩
theorem fw_X6_153 : Cond.fieldLink RX6 153 (TX5 3).1 (TX5 3).2.1 (TX5 3).2.2.1 ∈ lw_all := in_all 82 (by decide +kernel) rfl
theorem fl_X6_153 : FL RX6 153 5 3 := ⟨RX5, TX5, 4, ui_X5, rfl, by decide, fw_X6_153⟩
theorem fw_X6_162 : Cond.fieldLink RX6 162 (TX0 0).1 (TX0 0).2.1 (TX0 0).2.2.1 ∈ lw_all := in_all 102 (by decide +kernel) rfl
theorem fl_X6_162 : FL RX6 162 0 0 := ⟨RX0, TX0, 5, ui_X0, rfl, by decide, fw_X6_162⟩
theorem fw_X6_165 : Cond.fieldLink RX6 165 (TX0 1).1 (TX0 1).2.1 (TX0 1).2.2.1 ∈ lw_all := in_all 104 (by decide +kernel) rfl
theorem fl_X6_165 : FL RX6 165 0 1 := ⟨RX0, TX0, 5, ui_X0, rfl, by decide, fw_X6_165⟩
theorem fw_X6_168 : Cond.fieldLink RX6 168 (TX0 3).1 (TX0 3).2.1 (TX0 3).2.2.1 ∈ lw_all := in_all 108 (by decide +kernel) rfl
theorem fl_X6_168 : FL RX6 168 0 3 := ⟨RX0, TX0, 5, ui_X0, rfl, by decide, fw_X6_168⟩
theorem fw_X6_174 : Cond.fieldLink RX6 174 (TX0 2).1 (TX0 2).2.1 (TX0 2).2.2.1 ∈ lw_all := in_all 106 (by decide +kernel) rfl
theorem fl_X6_174 : FL RX6 174 0 2 := ⟨RX0, TX0, 5, ui_X0, rfl, by decide, fw_X6_174⟩
theorem fw_X6_198 : Cond.fieldLink RX6 198 (TX3 2).1 (TX3 2).2.1 (TX3 2).2.2.1 ∈ lw_all := in_all 146 (by decide +kernel) rfl
theorem fl_X6_198 : FL RX6 198 3 2 := ⟨RX3, TX3, 11, ui_X3, rfl, by decide, fw_X6_198⟩
theorem fw_X6_202 : Cond.fieldLink RX6 202 (TX2 2).1 (TX2 2).2.1 (TX2 2).2.2.1 ∈ lw_all := in_all 132 (by decide +kernel) rfl
theorem fl_X6_202 : FL RX6 202 2 2 := ⟨RX2, TX2, 3, ui_X2, rfl, by decide, fw_X6_202⟩
theorem fw_X6_210 : Cond.fieldLink RX6 210 (TX3 3).1 (TX3 3).2.1 (TX3 3).2.2.1 ∈ lw_all := in_all 149 (by decide +kernel) rfl
theorem fl_X6_210 : FL RX6 210 3 3 := ⟨RX3, TX3, 11, ui_X3, rfl, by decide, fw_X6_210⟩
theorem fw_X6_213 : Cond.fieldLink RX6 213 (TX3 4).1 (TX3 4).2.1 (TX3 4).2.2.1 ∈ lw_all := in_all 151 (by decide +kernel) rfl
theorem fl_X6_213 : FL RX6 213 3 4 := ⟨RX3, TX3, 11, ui_X3, rfl, by decide, fw_X6_213⟩
theorem fw_X6_226 : Cond.fieldLink RX6 226 (TX3 9).1 (TX3 9).2.1 (TX3 9).2.2.1 ∈ lw_all := in_all 161 (by decide +kernel) rfl
theorem fl_X6_226 : FL RX6 226 3 9 := ⟨RX3, TX3, 11, ui_X3, rfl, by decide, fw_X6_226⟩
theorem fw_X6_229 : Cond.fieldLink RX6 229 (TX3 10).1 (TX3 10).2.1 (TX3 10).2.2.1 ∈ lw_all := in_all 163 (by decide +kernel) rfl
theorem fl_X6_229 : FL RX6 229 3 10 := ⟨RX3, TX3, 11, ui_X3, rfl, by decide, fw_X6_229⟩
theorem fw_X6_236 : Cond.fieldLink RX6 236 (TX3 5).1 (TX3 5).2.1 (TX3 5).2.2.1 ∈ lw_all := in_all 153 (by decide +kernel) rfl
theorem fl_X6_236 : FL RX6 236 3 5 := ⟨RX3, TX3, 11, ui_X3, rfl, by decide, fw_X6_236⟩
theorem fw_X6_245 : Cond.fieldLink RX6 245 (TX3 7).1 (TX3 7).2.1 (TX3 7).2.2.1 ∈ lw_all := in_all 157 (by decide +kernel) rfl
theorem fl_X6_245 : FL RX6 245 3 7 := ⟨RX3, TX3, 11, ui_X3, rfl, by decide, fw_X6_245⟩
theorem fw_X6_248 : Cond.fieldLink RX6 248 (TX3 8).1 (TX3 8).2.1 (TX3 8).2.2.1 ∈ lw_all := in_all 159 (by decide +kernel) rfl
theorem fl_X6_248 : FL RX6 248 3 8 := ⟨RX3, TX3, 11, ui_X3, rfl, by decide, fw_X6_248⟩
theorem fw_X6_251 : Cond.fieldLink RX6 251 (TX3 6).1 (TX3 6).2.1 (TX3 6).2.2.1 ∈ lw_all := in_all 155 (by decide +kernel) rfl
theorem fl_X6_251 : FL RX6 251 3 6 := ⟨RX3, TX3, 11, ui_X3, rfl, by decide, fw_X6_251⟩
theorem fw_X6_254 : Cond.fieldLink RX6 254 (TX6 5).1 (TX6 5).2.1 (TX6 5).2.2.1 ∈ lw_all := in_all 237 (by decide +kernel) rfl
theorem fl_X6_254 : FL RX6 254 6 5 := ⟨RX6, TX6, 8, ui_X6, rfl, by decide, fw_X6_254⟩
theorem fp_X6_254 : FP RX6 254 6 5 .int false := ⟨RX6, TX6, 8, tyX6, ui_X6, rfl, by decide, fw_X6_254, tyX6_ok, nmX6, rfl, by decide +kernel, fun h => by first | rfl | cases h⟩
theorem fw_X6_257 : Cond.fieldLink RX6 257 (TX6 7).1 (TX6 7).2.1 (TX6 7).2.2.1 ∈ lw_all := in_all 239 (by decide +kernel) rfl
theorem fl_X6_257 : FL RX6 257 6 7 := ⟨RX6, TX6, 8, ui_X6, rfl, by decide, fw_X6_257⟩
theorem fp_X6_257 : FP RX6 257 6 7 .int false := ⟨RX6, TX6, 8, tyX6, ui_X6, rfl, by decide, fw_X6_257, tyX6_ok, nmX6, rfl, by decide +kernel, fun h => by first | rfl | cases h⟩
theorem fw_X6_264 : Cond.fieldLink RX6 264 (TX4 2).1 (TX4 2).2.1 (TX4 2).2.2.1 ∈ lw_all := in_all 219 (by decide +kernel) rfl
theorem fl_X6_264 : FL RX6 264 4 2 := ⟨RX4, TX4, 4, ui_X4, rfl, by decide, fw_X6_264⟩
theorem fw_X6_268 : Cond.fieldLink RX6 268 (TX4 3).1 (TX4 3).2.1 (TX4 3).2.2.1 ∈ lw_all := in_all 221 (by decide +kernel) rfl
theorem fl_X6_268 : FL RX6 268 4 3 := ⟨RX4, TX4, 4, ui_X4, rfl, by decide, fw_X6_268⟩
theorem fw_X6_275 : Cond.fieldLink RX6 275 (TX4 0).1 (TX4 0).2.1 (TX4 0).2.2.1 ∈ lw_all := in_all 215 (by decide +kernel) rfl
theorem fl_X6_275 : FL RX6 275 4 0 := ⟨RX4, TX4, 4, ui_X4, rfl, by decide, fw_X6_275⟩
theorem fw_X6_278 : Cond.fieldLink RX6 278 (TX4 1).1 (TX4 1).2.1 (TX4 1).2.2.1 ∈ lw_all := in_all 217 (by decide +kernel) rfl
theorem fl_X6_278 : FL RX6 278 4 1 := ⟨RX4, TX4, 4, ui_X4, rfl, by decide, fw_X6_278⟩
theorem fw_X7_7 : Cond.fieldLink RX7 7 (TX7 0).1 (TX7 0).2.1 (TX7 0).2.2.1 ∈ lw_all := in_all 621 (by decide +kernel) rfl
theorem fl_X7_7 : FL RX7 7 7 0 := ⟨RX7, TX7, 19, ui_X7, rfl, by decide, fw_X7_7⟩
theorem fp_X7_7 : FP RX7 7 7 0 (.array .int) true := ⟨RX7, TX7, 19, tyX7, ui_X7, rfl, by decide, fw_X7_7, tyX7_ok, nmX7, rfl, by decide +kernel, fun h => by first | rfl | cases h⟩
theorem fw_X7_13 : Cond.fieldLink RX7 13 (TX7 1).1 (TX7 1).2.1 (TX7 1).2.2.1 ∈ lw_all := in_all 622 (by decide +kernel) rfl
theorem fl_X7_13 : FL RX7 13 7 1 := ⟨RX7, TX7, 19, ui_X7, rfl, by decide, fw_X7_13⟩
theorem fp_X7_13 : FP RX7 13 7 1 (.array .int) true := ⟨RX7, TX7, 19, tyX7, ui_X7, rfl, by decide, fw_X7_13, tyX7_ok, nmX7, rfl, by decide +kernel, fun h => by first | rfl | cases h⟩
theorem fw_X7_16 : Cond.fieldLink RX7 16 (TX7 2).1 (TX7 2).2.1 (TX7 2).2.2.1 ∈ lw_all := in_all 623 (by decide +kernel) rfl
theorem fl_X7_16 : FL RX7 16 7 2 := ⟨RX7, TX7, 19, ui_X7, rfl, by decide, fw_X7_16⟩
theorem fp_X7_16 : FP RX7 16 7 2 (.array .int) true := ⟨RX7, TX7, 19, tyX7, ui_X7, rfl, by decide, fw_X7_16, tyX7_ok, nmX7, rfl, by decide +kernel, fun h => by first | rfl | cases h⟩
theorem fw_X7_19 : Cond.fieldLink RX7 19 (TX7 3).1 (TX7 3).2.1 (TX7 3).2.2.1 ∈ lw_all := in_all 624 (by decide +kernel) rfl
theorem fl_X7_19 : FL RX7 19 7 3 := ⟨RX7, TX7, 19, ui_X7, rfl, by decide, fw_X7_19⟩
theorem fp_X7_19 : FP RX7 19 7 3 (.array .int) true := ⟨RX7, TX7, 19, tyX7, ui_X7, rfl, by decide, fw_X7_19, tyX7_ok, nmX7, rfl, by decide +kernel, fun h => by first | rfl | cases h⟩
theorem fw_X7_22 : Cond.fieldLink RX7 22 (TX7 6).1 (TX7 6).2.1 (TX7 6).2.2.1 ∈ lw_all := in_all 627 (by decide +kernel) rfl
theorem fl_X7_22 : FL RX7 22 7 6 := ⟨RX7, TX7, 19, ui_X7, rfl, by decide, fw_X7_22⟩
theorem fp_X7_22 : FP RX7 22 7 6 (.array .int) true := ⟨RX7, TX7, 19, tyX7, ui_X7, rfl, by decide, fw_X7_22, tyX7_ok, nmX7, rfl, by decide +kernel, fun h => by first | rfl | cases h⟩
theorem fw_X7_25 : Cond.fieldLink RX7 25 (TX7 8).1 (TX7 8).2.1 (TX7 8).2.2.1 ∈ lw_all := in_all 629 (by decide +kernel) rfl
theorem fl_X7_25 : FL RX7 25 7 8 := ⟨RX7, TX7, 19, ui_X7, rfl, by decide, fw_X7_25⟩
theorem fp_X7_25 : FP RX7 25 7 8 (.array .int) true := ⟨RX7, TX7, 19, tyX7, ui_X7, rfl, by decide, fw_X7_25, tyX7_ok, nmX7, rfl, by decide +kernel, fun h => by first | rfl | cases h⟩
theorem fw_X7_28 : Cond.fieldLink RX7 28 (TX7 9).1 (TX7 9).2.1 (TX7 9).2.2.1 ∈ lw_all := in_all 630 (by decide +kernel) rfl
theorem fl_X7_28 : FL RX7 28 7 9 := ⟨RX7, TX7, 19, ui_X7, rfl, by decide, fw_X7_28⟩
theorem fp_X7_28 : FP RX7 28 7 9 (.array .int) true := ⟨RX7, TX7, 19, tyX7, ui_X7, rfl, by decide, fw_X7_28, tyX7_ok, nmX7, rfl, by decide +kernel, fun h => by first | rfl | cases h⟩
theorem fw_X7_31 : Cond.fieldLink RX7 31 (TX7 10).1 (TX7 10).2.1 (TX7 10).2.2.1 ∈ lw_all := in_all 631 (by decide +kernel) rfl
theorem fl_X7_31 : FL RX7 31 7 10 := ⟨RX7, TX7, 19, ui_X7, rfl, by decide, fw_X7_31⟩
theorem fp_X7_31 : FP RX7 31 7 10 (.array .int) true := ⟨RX7, TX7, 19, tyX7, ui_X7, rfl, by decide, fw_X7_31, tyX7_ok, nmX7, rfl, by decide +kernel, fun h => by first | rfl | cases h⟩
theorem fw_X7_34 : Cond.fieldLink RX7 34 (TX7 18).1 (TX7 18).2.1 (TX7 18).2.2.1 ∈ lw_all := in_all 639 (by decide +kernel) rfl
theorem fl_X7_34 : FL RX7 34 7 18 := ⟨RX7, TX7, 19, ui_X7, rfl, by decide, fw_X7_34⟩
theorem fp_X7_34 : FP RX7 34 7 18 (.array .int) true := ⟨RX7, TX7, 19, tyX7, ui_X7, rfl, by decide, fw_X7_34, tyX7_ok, nmX7, rfl, by decide +kernel, fun h => by first | rfl | cases h⟩
theorem fw_X7_37 : Cond.fieldLink RX7 37 (TX7 5).1 (TX7 5).2.1 (TX7 5).2.2.1 ∈ lw_all := in_all 626 (by decide +kernel) rfl
theorem fl_X7_37 : FL RX7 37 7 5 := ⟨RX7, TX7, 19, ui_X7, rfl, by decide, fw_X7_37⟩
theorem fp_X7_37 : FP RX7 37 7 5 .boolean false := ⟨RX7, TX7, 19, tyX7, ui_X7, rfl, by decide, fw_X7_37, tyX7_ok, nmX7, rfl, by decide +kernel, fun h => by first | rfl | cases h⟩
theorem fw_X7_41 : Cond.fieldLink RX7 41 (TX7 4).1 (TX7 4).2.1 (TX7 4).2.2.1 ∈ lw_all := in_all 625 (by decide +kernel) rfl
theorem fl_X7_41 : FL RX7 41 7 4 := ⟨RX7, TX7, 19, ui_X7, rfl, by decide, fw_X7_41⟩
theorem fp_X7_41 : FP RX7 41 7 4 .int false := ⟨RX7, TX7, 19, tyX7, ui_X7, rfl, by decide, fw_X7_41, tyX7_ok, nmX7, rfl, by decide +kernel, fun h => by first | rfl | cases h⟩
theorem fw_X7_114 : Cond.fieldLink RX7 114 (TX7 11).1 (TX7 11).2.1 (TX7 11).2.2.1 ∈ lw_all := in_all 632 (by decide +kernel) rfl
theorem fl_X7_114 : FL RX7 114 7 11 := ⟨RX7, TX7, 19, ui_X7, rfl, by decide, fw_X7_114⟩
theorem fp_X7_114 : FP RX7 114 7 11 .int false := ⟨RX7, TX7, 19, tyX7, ui_X7, rfl, by decide, fw_X7_114, tyX7_ok, nmX7, rfl, by decide +kernel, fun h => by first | rfl | cases h⟩
theorem fw_X7_173 : Cond.fieldLink RX7 173 (TX7 7).1 (TX7 7).2.1 (TX7 7).2.2.1 ∈ lw_all := in_all 628 (by decide +kernel) rfl
theorem fl_X7_173 : FL RX7 173 7 7 := ⟨RX7, TX7, 19, ui_X7, rfl, by decide, fw_X7_173⟩
theorem fp_X7_173 : FP RX7 173 7 7 .int false := ⟨RX7, TX7, 19, tyX7, ui_X7, rfl, by decide, fw_X7_173, tyX7_ok, nmX7, rfl, by decide +kernel, fun h => by first | rfl | cases h⟩
theorem fw_X7_177 : Cond.fieldLink RX7 177 (TX7 12).1 (TX7 12).2.1 (TX7 12).2.2.1 ∈ lw_all := in_all 633 (by decide +kernel) rfl
theorem fl_X7_177 : FL RX7 177 7 12 := ⟨RX7, TX7, 19, ui_X7, rfl, by decide, fw_X7_177⟩
theorem fp_X7_177 : FP RX7 177 7 12 .int false := ⟨RX7, TX7, 19, tyX7, ui_X7, rfl, by decide, fw_X7_177, tyX7_ok, nmX7, rfl, by decide +kernel, fun h => by first | rfl | cases h⟩
theorem fw_X7_184 : Cond.fieldLink RX7 184 (TX7 17).1 (TX7 17).2.1 (TX7 17).2.2.1 ∈ lw_all := in_all 638 (by decide +kernel) rfl
theorem fl_X7_184 : FL RX7 184 7 17 := ⟨RX7, TX7, 19, ui_X7, rfl, by decide, fw_X7_184⟩
theorem fp_X7_184 : FP RX7 184 7 17 .int false := ⟨RX7, TX7, 19, tyX7, ui_X7, rfl, by decide, fw_X7_184, tyX7_ok, nmX7, rfl, by decide +kernel, fun h => by first | rfl | cases h⟩
theorem fw_X7_216 : Cond.fieldLink RX7 216 (TX7 13).1 (TX7 13).2.1 (TX7 13).2.2.1 ∈ lw_all := in_all 634 (by decide +kernel) rfl
theorem fl_X7_216 : FL RX7 216 7 13 := ⟨RX7, TX7, 19, ui_X7, rfl, by decide, fw_X7_216⟩
theorem fp_X7_216 : FP RX7 216 7 13 .int false := ⟨RX7, TX7, 19, tyX7, ui_X7, rfl, by decide, fw_X7_216, tyX7_ok, nmX7, rfl, by decide +kernel, fun h => by first | rfl | cases h⟩
theorem fw_X7_219 : Cond.fieldLink RX7 219 (TX7 16).1 (TX7 16).2.1 (TX7 16).2.2.1 ∈ lw_all := in_all 637 (by decide +kernel) rfl
theorem fl_X7_219 : FL RX7 219 7 16 := ⟨RX7, TX7, 19, ui_X7, rfl, by decide, fw_X7_219⟩
theorem fp_X7_219 : FP RX7 219 7 16 .int false := ⟨RX7, TX7, 19, tyX7, ui_X7, rfl, by decide, fw_X7_219, tyX7_ok, nmX7, rfl, by decide +kernel, fun h => by first | rfl | cases h⟩
theorem fw_X7_228 : Cond.fieldLink RX7 228 (TX7 14).1 (TX7 14).2.1 (TX7 14).2.2.1 ∈ lw_all := in_all 635 (by decide +kernel) rfl
theorem fl_X7_228 : FL RX7 228 7 14 := ⟨RX7, TX7, 19, ui_X7, rfl, by decide, fw_X7_228⟩
theorem fp_X7_228 : FP RX7 228 7 14 .int false := ⟨RX7, TX7, 19, tyX7, ui_X7, rfl, by decide, fw_X7_228, tyX7_ok, nmX7, rfl, by decide +kernel, fun h => by first | rfl | cases h⟩
theorem fw_X7_231 : Cond.fieldLink RX7 231 (TX7 15).1 (TX7 15).2.1 (TX7 15).2.2.1 ∈ lw_all := in_all 636 (by decide +kernel) rfl
theorem fl_X7_231 : FL RX7 231 7 15 := ⟨RX7, TX7, 19, ui_X7, rfl, by decide, fw_X7_231⟩
theorem fp_X7_231 : FP RX7 231 7 15 .int false := ⟨RX7, TX7, 19, tyX7, ui_X7, rfl, by decide, fw_X7_231, tyX7_ok, nmX7, rfl, by decide +kernel, fun h => by first | rfl | cases h⟩
theorem kc_J6_265 : Cond.constant RJ6 265 (1431655765) ∈ lw_all := in_all 461 (by decide +kernel) rfl
theorem kc_J6_266 : Cond.constant RJ6 266 (858993459) ∈ lw_all := in_all 462 (by decide +kernel) rfl
theorem kc_J6_267 : Cond.constant RJ6 267 (252645135) ∈ lw_all := in_all 463 (by decide +kernel) rfl
theorem kc_Jxf58ca_77 : Cond.constant RJxf58ca 77 (2143289344) ∈ lw_all := in_all 899 (by decide +kernel) rfl
theorem kc_X6_45 : Cond.constant RX6 45 (-1000001) ∈ lw_all := in_all 271 (by decide +kernel) rfl
theorem kc_X6_117 : Cond.constant RX6 117 (-1000002) ∈ lw_all := in_all 441 (by decide +kernel) rfl
theorem kc_X6_185 : Cond.constant RX6 185 (-1000004) ∈ lw_all := in_all 505 (by decide +kernel) rfl
theorem kc_X6_260 : Cond.constant RX6 260 (-1000003) ∈ lw_all := in_all 582 (by decide +kernel) rfl
theorem kc_X6_286 : Cond.constantFloat RX6 286 (1258291200) ∈ lw_all := in_all 560 (by decide +kernel) rfl
theorem kc_X6_287 : Cond.constant RX6 287 (8388608) ∈ lw_all := in_all 561 (by decide +kernel) rfl
theorem kc_X7_106 : Cond.constant RX7 106 (-1000001) ∈ lw_all := in_all 689 (by decide +kernel) rfl
theorem kc_X7_113 : Cond.constant RX7 113 (-1000004) ∈ lw_all := in_all 763 (by decide +kernel) rfl
theorem kc_X7_146 : Cond.constant RX7 146 (-1000002) ∈ lw_all := in_all 823 (by decide +kernel) rfl
theorem kc_X7_176 : Cond.constant RX7 176 (-1000003) ∈ lw_all := in_all 916 (by decide +kernel) rfl
theorem lk_Jxf58ca_59 : LkS RJxf58ca 59 yJxf58ca_isNaN_12338 cJxf58ca_isNaN_12338 1 (some .boolean) 1 := ⟨⟨in_all 895 (by decide +kernel) rfl, in_all 47 (by decide +kernel) rfl, in_all 893 (by decide +kernel) rfl, by decide +kernel⟩, in_all 894 (by decide +kernel) rfl⟩
theorem lk_L_9 : LI RL 9 yX6_init cX6_init 2 0 := ⟨⟨in_all 52 (by decide +kernel) rfl, in_all 37 (by decide +kernel) rfl, in_all 50 (by decide +kernel) rfl, by decide +kernel⟩, rfl, in_all 51 (by decide +kernel) rfl⟩
theorem lk_L_12 : LI RL 12 yX7_init cX7_init 1 0 := ⟨⟨in_all 619 (by decide +kernel) rfl, in_all 45 (by decide +kernel) rfl, in_all 617 (by decide +kernel) rfl, by decide +kernel⟩, rfl, in_all 618 (by decide +kernel) rfl⟩
theorem lk_L_13 : LV RL 13 yX6_write cX6_write 3 (some .int) 2 6 := ⟨⟨in_all 261 (by decide +kernel) rfl, in_all 37 (by decide +kernel) rfl, in_all 258 (by decide +kernel) rfl, by decide +kernel⟩, in_all 259 (by decide +kernel) rfl, in_all 260 (by decide +kernel) rfl, TX6, 8, rfl⟩
theorem lk_L_17 : LV RL 17 yX7_write cX7_write 3 (some .int) 2 7 := ⟨⟨in_all 682 (by decide +kernel) rfl, in_all 45 (by decide +kernel) rfl, in_all 679 (by decide +kernel) rfl, by decide +kernel⟩, in_all 680 (by decide +kernel) rfl, in_all 681 (by decide +kernel) rfl, TX7, 19, rfl⟩
theorem lk_L_18 : LV RL 18 yX6_read cX6_read 2 (some .int) 1 6 := ⟨⟨in_all 306 (by decide +kernel) rfl, in_all 37 (by decide +kernel) rfl, in_all 303 (by decide +kernel) rfl, by decide +kernel⟩, in_all 304 (by decide +kernel) rfl, in_all 305 (by decide +kernel) rfl, TX6, 8, rfl⟩
theorem lk_L_22 : LV RL 22 yX7_read cX7_read 3 (some .int) 1 7 := ⟨⟨in_all 701 (by decide +kernel) rfl, in_all 45 (by decide +kernel) rfl, in_all 698 (by decide +kernel) rfl, by decide +kernel⟩, in_all 699 (by decide +kernel) rfl, in_all 700 (by decide +kernel) rfl, TX7, 19, rfl⟩
theorem lk_L_23 : LV RL 23 yX6_burst cX6_burst 2 (some .int) 1 6 := ⟨⟨in_all 356 (by decide +kernel) rfl, in_all 37 (by decide +kernel) rfl, in_all 353 (by decide +kernel) rfl, by decide +kernel⟩, in_all 354 (by decide +kernel) rfl, in_all 355 (by decide +kernel) rfl, TX6, 8, rfl⟩
theorem lk_L_26 : LV RL 26 yX7_burst cX7_burst 2 (some .int) 1 7 := ⟨⟨in_all 767 (by decide +kernel) rfl, in_all 45 (by decide +kernel) rfl, in_all 764 (by decide +kernel) rfl, by decide +kernel⟩, in_all 765 (by decide +kernel) rfl, in_all 766 (by decide +kernel) rfl, TX7, 19, rfl⟩
theorem lk_L_27 : LV RL 27 yX6_pass cX6_pass 2 (some .int) 1 6 := ⟨⟨in_all 398 (by decide +kernel) rfl, in_all 37 (by decide +kernel) rfl, in_all 395 (by decide +kernel) rfl, by decide +kernel⟩, in_all 396 (by decide +kernel) rfl, in_all 397 (by decide +kernel) rfl, TX6, 8, rfl⟩
theorem lk_L_30 : LV RL 30 yX7_pass cX7_pass 2 (some .int) 1 7 := ⟨⟨in_all 799 (by decide +kernel) rfl, in_all 45 (by decide +kernel) rfl, in_all 796 (by decide +kernel) rfl, by decide +kernel⟩, in_all 797 (by decide +kernel) rfl, in_all 798 (by decide +kernel) rfl, TX7, 19, rfl⟩
theorem lk_L_31 : LV RL 31 yX6_alarm cX6_alarm 4 (some .int) 3 6 := ⟨⟨in_all 406 (by decide +kernel) rfl, in_all 37 (by decide +kernel) rfl, in_all 403 (by decide +kernel) rfl, by decide +kernel⟩, in_all 404 (by decide +kernel) rfl, in_all 405 (by decide +kernel) rfl, TX6, 8, rfl⟩
theorem lk_L_35 : LV RL 35 yX7_alarm cX7_alarm 5 (some .int) 3 7 := ⟨⟨in_all 803 (by decide +kernel) rfl, in_all 45 (by decide +kernel) rfl, in_all 800 (by decide +kernel) rfl, by decide +kernel⟩, in_all 801 (by decide +kernel) rfl, in_all 802 (by decide +kernel) rfl, TX7, 19, rfl⟩
theorem lk_L_36 : LV RL 36 yX6_arm cX6_arm 3 (some .int) 2 6 := ⟨⟨in_all 420 (by decide +kernel) rfl, in_all 37 (by decide +kernel) rfl, in_all 417 (by decide +kernel) rfl, by decide +kernel⟩, in_all 418 (by decide +kernel) rfl, in_all 419 (by decide +kernel) rfl, TX6, 8, rfl⟩
theorem lk_L_39 : LV RL 39 yX7_arm cX7_arm 5 (some .int) 2 7 := ⟨⟨in_all 810 (by decide +kernel) rfl, in_all 45 (by decide +kernel) rfl, in_all 807 (by decide +kernel) rfl, by decide +kernel⟩, in_all 808 (by decide +kernel) rfl, in_all 809 (by decide +kernel) rfl, TX7, 19, rfl⟩
theorem lk_L_40 : LV RL 40 yX6_clear cX6_clear 2 (some .int) 0 6 := ⟨⟨in_all 428 (by decide +kernel) rfl, in_all 37 (by decide +kernel) rfl, in_all 425 (by decide +kernel) rfl, by decide +kernel⟩, in_all 426 (by decide +kernel) rfl, in_all 427 (by decide +kernel) rfl, TX6, 8, rfl⟩
theorem lk_L_44 : LV RL 44 yX7_clear cX7_clear 3 (some .int) 0 7 := ⟨⟨in_all 814 (by decide +kernel) rfl, in_all 45 (by decide +kernel) rfl, in_all 811 (by decide +kernel) rfl, by decide +kernel⟩, in_all 812 (by decide +kernel) rfl, in_all 813 (by decide +kernel) rfl, TX7, 19, rfl⟩
theorem lk_L_45 : LV RL 45 yX6_fail cX6_fail 4 (some .int) 3 6 := ⟨⟨in_all 432 (by decide +kernel) rfl, in_all 37 (by decide +kernel) rfl, in_all 429 (by decide +kernel) rfl, by decide +kernel⟩, in_all 430 (by decide +kernel) rfl, in_all 431 (by decide +kernel) rfl, TX6, 8, rfl⟩
theorem lk_L_48 : LV RL 48 yX7_fail cX7_fail 4 (some .int) 3 7 := ⟨⟨in_all 822 (by decide +kernel) rfl, in_all 45 (by decide +kernel) rfl, in_all 819 (by decide +kernel) rfl, by decide +kernel⟩, in_all 820 (by decide +kernel) rfl, in_all 821 (by decide +kernel) rfl, TX7, 19, rfl⟩
theorem lk_L_49 : LV RL 49 yX6_heal cX6_heal 3 (some .int) 2 6 := ⟨⟨in_all 449 (by decide +kernel) rfl, in_all 37 (by decide +kernel) rfl, in_all 446 (by decide +kernel) rfl, by decide +kernel⟩, in_all 447 (by decide +kernel) rfl, in_all 448 (by decide +kernel) rfl, TX6, 8, rfl⟩
theorem lk_L_52 : LV RL 52 yX7_heal cX7_heal 3 (some .int) 2 7 := ⟨⟨in_all 827 (by decide +kernel) rfl, in_all 45 (by decide +kernel) rfl, in_all 824 (by decide +kernel) rfl, by decide +kernel⟩, in_all 825 (by decide +kernel) rfl, in_all 826 (by decide +kernel) rfl, TX7, 19, rfl⟩
theorem lk_L_53 : LV RL 53 yX6_set cX6_set 3 (some .int) 2 6 := ⟨⟨in_all 467 (by decide +kernel) rfl, in_all 37 (by decide +kernel) rfl, in_all 464 (by decide +kernel) rfl, by decide +kernel⟩, in_all 465 (by decide +kernel) rfl, in_all 466 (by decide +kernel) rfl, TX6, 8, rfl⟩
theorem lk_L_56 : LV RL 56 yX7_set cX7_set 4 (some .int) 2 7 := ⟨⟨in_all 838 (by decide +kernel) rfl, in_all 45 (by decide +kernel) rfl, in_all 835 (by decide +kernel) rfl, by decide +kernel⟩, in_all 836 (by decide +kernel) rfl, in_all 837 (by decide +kernel) rfl, TX7, 19, rfl⟩
theorem lk_L_57 : LV RL 57 yX6_registerOf cX6_registerOf 5 (some .int) 2 6 := ⟨⟨in_all 479 (by decide +kernel) rfl, in_all 37 (by decide +kernel) rfl, in_all 476 (by decide +kernel) rfl, by decide +kernel⟩, in_all 477 (by decide +kernel) rfl, in_all 478 (by decide +kernel) rfl, TX6, 8, rfl⟩
theorem lk_L_60 : LV RL 60 yX7_registerOf cX7_registerOf 3 (some .int) 2 7 := ⟨⟨in_all 842 (by decide +kernel) rfl, in_all 45 (by decide +kernel) rfl, in_all 839 (by decide +kernel) rfl, by decide +kernel⟩, in_all 840 (by decide +kernel) rfl, in_all 841 (by decide +kernel) rfl, TX7, 19, rfl⟩
theorem lk_L_61 : LV RL 61 yX6_alarmOf cX6_alarmOf 4 (some .int) 2 6 := ⟨⟨in_all 493 (by decide +kernel) rfl, in_all 37 (by decide +kernel) rfl, in_all 490 (by decide +kernel) rfl, by decide +kernel⟩, in_all 491 (by decide +kernel) rfl, in_all 492 (by decide +kernel) rfl, TX6, 8, rfl⟩
theorem lk_L_64 : LV RL 64 yX7_alarmOf cX7_alarmOf 3 (some .int) 2 7 := ⟨⟨in_all 850 (by decide +kernel) rfl, in_all 45 (by decide +kernel) rfl, in_all 847 (by decide +kernel) rfl, by decide +kernel⟩, in_all 848 (by decide +kernel) rfl, in_all 849 (by decide +kernel) rfl, TX7, 19, rfl⟩
theorem lk_L_65 : LV RL 65 yX6_date cX6_date 3 (some .int) 1 6 := ⟨⟨in_all 499 (by decide +kernel) rfl, in_all 37 (by decide +kernel) rfl, in_all 496 (by decide +kernel) rfl, by decide +kernel⟩, in_all 497 (by decide +kernel) rfl, in_all 498 (by decide +kernel) rfl, TX6, 8, rfl⟩
theorem lk_L_68 : LV RL 68 yX7_date cX7_date 3 (some .int) 1 7 := ⟨⟨in_all 854 (by decide +kernel) rfl, in_all 45 (by decide +kernel) rfl, in_all 851 (by decide +kernel) rfl, by decide +kernel⟩, in_all 852 (by decide +kernel) rfl, in_all 853 (by decide +kernel) rfl, TX7, 19, rfl⟩
theorem lk_L_69 : LV RL 69 yX6_log cX6_log 3 (some .int) 2 6 := ⟨⟨in_all 530 (by decide +kernel) rfl, in_all 37 (by decide +kernel) rfl, in_all 527 (by decide +kernel) rfl, by decide +kernel⟩, in_all 528 (by decide +kernel) rfl, in_all 529 (by decide +kernel) rfl, TX6, 8, rfl⟩
theorem lk_L_72 : LV RL 72 yX7_log cX7_log 3 (some .int) 2 7 := ⟨⟨in_all 866 (by decide +kernel) rfl, in_all 45 (by decide +kernel) rfl, in_all 863 (by decide +kernel) rfl, by decide +kernel⟩, in_all 864 (by decide +kernel) rfl, in_all 865 (by decide +kernel) rfl, TX7, 19, rfl⟩
theorem lk_L_73 : LV RL 73 yX6_readable cX6_readable 3 (some .int) 0 6 := ⟨⟨in_all 538 (by decide +kernel) rfl, in_all 37 (by decide +kernel) rfl, in_all 535 (by decide +kernel) rfl, by decide +kernel⟩, in_all 536 (by decide +kernel) rfl, in_all 537 (by decide +kernel) rfl, TX6, 8, rfl⟩
theorem lk_L_76 : LV RL 76 yX7_readable cX7_readable 2 (some .int) 0 7 := ⟨⟨in_all 870 (by decide +kernel) rfl, in_all 45 (by decide +kernel) rfl, in_all 867 (by decide +kernel) rfl, by decide +kernel⟩, in_all 868 (by decide +kernel) rfl, in_all 869 (by decide +kernel) rfl, TX7, 19, rfl⟩
theorem lk_L_77 : LV RL 77 yX6_safeIn cX6_safeIn 3 (some .int) 0 6 := ⟨⟨in_all 542 (by decide +kernel) rfl, in_all 37 (by decide +kernel) rfl, in_all 539 (by decide +kernel) rfl, by decide +kernel⟩, in_all 540 (by decide +kernel) rfl, in_all 541 (by decide +kernel) rfl, TX6, 8, rfl⟩
theorem lk_L_80 : LV RL 80 yX7_safeIn cX7_safeIn 2 (some .int) 0 7 := ⟨⟨in_all 874 (by decide +kernel) rfl, in_all 45 (by decide +kernel) rfl, in_all 871 (by decide +kernel) rfl, by decide +kernel⟩, in_all 872 (by decide +kernel) rfl, in_all 873 (by decide +kernel) rfl, TX7, 19, rfl⟩
theorem lk_L_81 : LV RL 81 yX6_ifBurst cX6_ifBurst 3 (some .int) 2 6 := ⟨⟨in_all 546 (by decide +kernel) rfl, in_all 37 (by decide +kernel) rfl, in_all 543 (by decide +kernel) rfl, by decide +kernel⟩, in_all 544 (by decide +kernel) rfl, in_all 545 (by decide +kernel) rfl, TX6, 8, rfl⟩
theorem lk_L_84 : LV RL 84 yX7_ifBurst cX7_ifBurst 5 (some .int) 2 7 := ⟨⟨in_all 878 (by decide +kernel) rfl, in_all 45 (by decide +kernel) rfl, in_all 875 (by decide +kernel) rfl, by decide +kernel⟩, in_all 876 (by decide +kernel) rfl, in_all 877 (by decide +kernel) rfl, TX7, 19, rfl⟩
theorem lk_L_85 : LV RL 85 yX6_comesIn cX6_comesIn 3 (some .int) 1 6 := ⟨⟨in_all 550 (by decide +kernel) rfl, in_all 37 (by decide +kernel) rfl, in_all 547 (by decide +kernel) rfl, by decide +kernel⟩, in_all 548 (by decide +kernel) rfl, in_all 549 (by decide +kernel) rfl, TX6, 8, rfl⟩
theorem lk_L_88 : LV RL 88 yX7_comesIn cX7_comesIn 4 (some .int) 1 7 := ⟨⟨in_all 885 (by decide +kernel) rfl, in_all 45 (by decide +kernel) rfl, in_all 882 (by decide +kernel) rfl, by decide +kernel⟩, in_all 883 (by decide +kernel) rfl, in_all 884 (by decide +kernel) rfl, TX7, 19, rfl⟩
theorem lk_L_89 : LV RL 89 yX6_share cX6_share 1 (some .int) 0 6 := ⟨⟨in_all 556 (by decide +kernel) rfl, in_all 37 (by decide +kernel) rfl, in_all 553 (by decide +kernel) rfl, by decide +kernel⟩, in_all 554 (by decide +kernel) rfl, in_all 555 (by decide +kernel) rfl, TX6, 8, rfl⟩
theorem lk_L_92 : LV RL 92 yX7_share cX7_share 3 (some .int) 0 7 := ⟨⟨in_all 889 (by decide +kernel) rfl, in_all 45 (by decide +kernel) rfl, in_all 886 (by decide +kernel) rfl, by decide +kernel⟩, in_all 887 (by decide +kernel) rfl, in_all 888 (by decide +kernel) rfl, TX7, 19, rfl⟩
theorem lk_L_93 : LV RL 93 yX6_count cX6_count 2 (some .int) 1 6 := ⟨⟨in_all 565 (by decide +kernel) rfl, in_all 37 (by decide +kernel) rfl, in_all 562 (by decide +kernel) rfl, by decide +kernel⟩, in_all 563 (by decide +kernel) rfl, in_all 564 (by decide +kernel) rfl, TX6, 8, rfl⟩
theorem lk_L_96 : LV RL 96 yX7_count cX7_count 2 (some .int) 1 7 := ⟨⟨in_all 903 (by decide +kernel) rfl, in_all 45 (by decide +kernel) rfl, in_all 900 (by decide +kernel) rfl, by decide +kernel⟩, in_all 901 (by decide +kernel) rfl, in_all 902 (by decide +kernel) rfl, TX7, 19, rfl⟩
theorem lk_L_97 : LV RL 97 yX6_undo cX6_undo 2 (some .int) 0 6 := ⟨⟨in_all 577 (by decide +kernel) rfl, in_all 37 (by decide +kernel) rfl, in_all 574 (by decide +kernel) rfl, by decide +kernel⟩, in_all 575 (by decide +kernel) rfl, in_all 576 (by decide +kernel) rfl, TX6, 8, rfl⟩
theorem lk_L_100 : LV RL 100 yX7_undo cX7_undo 2 (some .int) 0 7 := ⟨⟨in_all 911 (by decide +kernel) rfl, in_all 45 (by decide +kernel) rfl, in_all 908 (by decide +kernel) rfl, by decide +kernel⟩, in_all 909 (by decide +kernel) rfl, in_all 910 (by decide +kernel) rfl, TX7, 19, rfl⟩
theorem lk_L_101 : LV RL 101 yX6_type cX6_type 2 (some .int) 1 6 := ⟨⟨in_all 581 (by decide +kernel) rfl, in_all 37 (by decide +kernel) rfl, in_all 578 (by decide +kernel) rfl, by decide +kernel⟩, in_all 579 (by decide +kernel) rfl, in_all 580 (by decide +kernel) rfl, TX6, 8, rfl⟩
theorem lk_L_104 : LV RL 104 yX7_type cX7_type 2 (some .int) 1 7 := ⟨⟨in_all 915 (by decide +kernel) rfl, in_all 45 (by decide +kernel) rfl, in_all 912 (by decide +kernel) rfl, by decide +kernel⟩, in_all 913 (by decide +kernel) rfl, in_all 914 (by decide +kernel) rfl, TX7, 19, rfl⟩
theorem lk_L_105 : LV RL 105 yX6_clearText cX6_clearText 2 (some .int) 0 6 := ⟨⟨in_all 586 (by decide +kernel) rfl, in_all 37 (by decide +kernel) rfl, in_all 583 (by decide +kernel) rfl, by decide +kernel⟩, in_all 584 (by decide +kernel) rfl, in_all 585 (by decide +kernel) rfl, TX6, 8, rfl⟩
theorem lk_L_108 : LV RL 108 yX7_clearText cX7_clearText 2 (some .int) 0 7 := ⟨⟨in_all 920 (by decide +kernel) rfl, in_all 45 (by decide +kernel) rfl, in_all 917 (by decide +kernel) rfl, by decide +kernel⟩, in_all 918 (by decide +kernel) rfl, in_all 919 (by decide +kernel) rfl, TX7, 19, rfl⟩
theorem lk_L_109 : LV RL 109 yX6_fault cX6_fault 3 (some .int) 1 6 := ⟨⟨in_all 590 (by decide +kernel) rfl, in_all 37 (by decide +kernel) rfl, in_all 587 (by decide +kernel) rfl, by decide +kernel⟩, in_all 588 (by decide +kernel) rfl, in_all 589 (by decide +kernel) rfl, TX6, 8, rfl⟩
theorem lk_L_112 : LV RL 112 yX7_fault cX7_fault 3 (some .int) 1 7 := ⟨⟨in_all 924 (by decide +kernel) rfl, in_all 45 (by decide +kernel) rfl, in_all 921 (by decide +kernel) rfl, by decide +kernel⟩, in_all 922 (by decide +kernel) rfl, in_all 923 (by decide +kernel) rfl, TX7, 19, rfl⟩
theorem lk_L_113 : LV RL 113 yX6_play cX6_play 4 (some .int) 0 6 := ⟨⟨in_all 614 (by decide +kernel) rfl, in_all 37 (by decide +kernel) rfl, in_all 611 (by decide +kernel) rfl, by decide +kernel⟩, in_all 612 (by decide +kernel) rfl, in_all 613 (by decide +kernel) rfl, TX6, 8, rfl⟩
theorem lk_L_116 : LV RL 116 yX7_play cX7_play 2 (some .int) 0 7 := ⟨⟨in_all 961 (by decide +kernel) rfl, in_all 45 (by decide +kernel) rfl, in_all 958 (by decide +kernel) rfl, by decide +kernel⟩, in_all 959 (by decide +kernel) rfl, in_all 960 (by decide +kernel) rfl, TX7, 19, rfl⟩
theorem oi_X0_3 : Cond.methodLink RX0 3 objectInit ∈ lw_all := in_all 98 (by decide +kernel) rfl
theorem ac_X0_23 : AC RX0 23 := ⟨in_all 288 (by decide +kernel) rfl, in_all 72 (by decide +kernel) rfl, in_all 71 (by decide +kernel) rfl, in_all 40 (by decide +kernel) rfl⟩
theorem lkN_X6_bitOf : LBN yX6_bitOf cX6_bitOf 2 (some .int) 2 := ⟨in_all 348 (by decide +kernel) rfl, in_all 37 (by decide +kernel) rfl, in_all 347 (by decide +kernel) rfl, by decide +kernel⟩
theorem lk_X0_44 : LV RX0 44 yX0_matches cX0_matches 5 (some .boolean) 2 0 := ⟨⟨in_all 352 (by decide +kernel) rfl, in_all 41 (by decide +kernel) rfl, in_all 349 (by decide +kernel) rfl, by decide +kernel⟩, in_all 350 (by decide +kernel) rfl, in_all 351 (by decide +kernel) rfl, TX0, 5, rfl⟩
theorem oi_X1_3 : Cond.methodLink RX1 3 objectInit ∈ lw_all := in_all 192 (by decide +kernel) rfl
theorem lk_X1_29 : LV RX1 29 yX1_seeAtOnce cX1_seeAtOnce 2 none 1 1 := ⟨⟨in_all 367 (by decide +kernel) rfl, in_all 43 (by decide +kernel) rfl, in_all 364 (by decide +kernel) rfl, by decide +kernel⟩, in_all 365 (by decide +kernel) rfl, in_all 366 (by decide +kernel) rfl, TX1, 4, rfl⟩
theorem lk_X1_36 : LV RX1 36 yX3_passPhases cX3_passPhases 4 (some .int) 1 3 := ⟨⟨in_all 314 (by decide +kernel) rfl, in_all 38 (by decide +kernel) rfl, in_all 373 (by decide +kernel) rfl, by decide +kernel⟩, in_all 312 (by decide +kernel) rfl, in_all 313 (by decide +kernel) rfl, TX3, 11, rfl⟩
theorem lk_X1_40 : LV RX1 40 yX1_readInTurn cX1_readInTurn 5 none 1 1 := ⟨⟨in_all 377 (by decide +kernel) rfl, in_all 43 (by decide +kernel) rfl, in_all 374 (by decide +kernel) rfl, by decide +kernel⟩, in_all 375 (by decide +kernel) rfl, in_all 376 (by decide +kernel) rfl, TX1, 4, rfl⟩
theorem ac_X1_44 : AC RX1 44 := ⟨in_all 372 (by decide +kernel) rfl, in_all 72 (by decide +kernel) rfl, in_all 71 (by decide +kernel) rfl, in_all 40 (by decide +kernel) rfl⟩
theorem lk_X1_50 : LV RX1 50 yX1_isTold cX1_isTold 3 (some .boolean) 1 1 := ⟨⟨in_all 382 (by decide +kernel) rfl, in_all 43 (by decide +kernel) rfl, in_all 379 (by decide +kernel) rfl, by decide +kernel⟩, in_all 380 (by decide +kernel) rfl, in_all 381 (by decide +kernel) rfl, TX1, 4, rfl⟩
theorem lk_X1_54 : LV RX1 54 yX1_isTorn cX1_isTorn 2 (some .boolean) 0 1 := ⟨⟨in_all 386 (by decide +kernel) rfl, in_all 43 (by decide +kernel) rfl, in_all 383 (by decide +kernel) rfl, by decide +kernel⟩, in_all 384 (by decide +kernel) rfl, in_all 385 (by decide +kernel) rfl, TX1, 4, rfl⟩
theorem lk_X1_58 : LV RX1 58 yX3_logBurst cX3_logBurst 2 none 1 3 := ⟨⟨in_all 390 (by decide +kernel) rfl, in_all 38 (by decide +kernel) rfl, in_all 387 (by decide +kernel) rfl, by decide +kernel⟩, in_all 388 (by decide +kernel) rfl, in_all 389 (by decide +kernel) rfl, TX3, 11, rfl⟩
theorem lk_X1_66 : LV RX1 66 yX1_keepShown cX1_keepShown 2 none 1 1 := ⟨⟨in_all 371 (by decide +kernel) rfl, in_all 43 (by decide +kernel) rfl, in_all 368 (by decide +kernel) rfl, by decide +kernel⟩, in_all 369 (by decide +kernel) rfl, in_all 370 (by decide +kernel) rfl, TX1, 4, rfl⟩
theorem lk_X1_74 : LV RX1 74 yX3_passPhase cX3_passPhase 1 (some .boolean) 0 3 := ⟨⟨in_all 318 (by decide +kernel) rfl, in_all 38 (by decide +kernel) rfl, in_all 378 (by decide +kernel) rfl, by decide +kernel⟩, in_all 316 (by decide +kernel) rfl, in_all 317 (by decide +kernel) rfl, TX3, 11, rfl⟩
theorem oi_X2_3 : Cond.methodLink RX2 3 objectInit ∈ lw_all := in_all 127 (by decide +kernel) rfl
theorem ac_X2_16 : AC RX2 16 := ⟨in_all 293 (by decide +kernel) rfl, in_all 72 (by decide +kernel) rfl, in_all 71 (by decide +kernel) rfl, in_all 40 (by decide +kernel) rfl⟩
theorem oi_X3_3 : Cond.methodLink RX3 3 objectInit ∈ lw_all := in_all 61 (by decide +kernel) rfl
theorem lk_X3_11 : LI RX3 11 yX5_init cX5_init 1 0 := ⟨⟨in_all 66 (by decide +kernel) rfl, in_all 39 (by decide +kernel) rfl, in_all 64 (by decide +kernel) rfl, by decide +kernel⟩, rfl, in_all 65 (by decide +kernel) rfl⟩
theorem lk_X3_20 : LI RX3 20 yX0_init cX0_init 1 0 := ⟨⟨in_all 97 (by decide +kernel) rfl, in_all 41 (by decide +kernel) rfl, in_all 95 (by decide +kernel) rfl, by decide +kernel⟩, rfl, in_all 96 (by decide +kernel) rfl⟩
theorem lk_X3_27 : LI RX3 27 yX2_init cX2_init 1 0 := ⟨⟨in_all 126 (by decide +kernel) rfl, in_all 42 (by decide +kernel) rfl, in_all 124 (by decide +kernel) rfl, by decide +kernel⟩, rfl, in_all 125 (by decide +kernel) rfl⟩
theorem lk_X3_36 : LV RX3 36 yX5_copyFrom cX5_copyFrom 2 none 1 5 := ⟨⟨in_all 283 (by decide +kernel) rfl, in_all 39 (by decide +kernel) rfl, in_all 280 (by decide +kernel) rfl, by decide +kernel⟩, in_all 281 (by decide +kernel) rfl, in_all 282 (by decide +kernel) rfl, TX5, 4, rfl⟩
theorem lk_X3_40 : LV RX3 40 yX0_copyFrom cX0_copyFrom 3 none 1 0 := ⟨⟨in_all 287 (by decide +kernel) rfl, in_all 41 (by decide +kernel) rfl, in_all 284 (by decide +kernel) rfl, by decide +kernel⟩, in_all 285 (by decide +kernel) rfl, in_all 286 (by decide +kernel) rfl, TX0, 5, rfl⟩
theorem lk_X3_43 : LV RX3 43 yX2_copyFrom cX2_copyFrom 3 none 1 2 := ⟨⟨in_all 292 (by decide +kernel) rfl, in_all 42 (by decide +kernel) rfl, in_all 289 (by decide +kernel) rfl, by decide +kernel⟩, in_all 290 (by decide +kernel) rfl, in_all 291 (by decide +kernel) rfl, TX2, 3, rfl⟩
theorem ac_X3_46 : AC RX3 46 := ⟨in_all 294 (by decide +kernel) rfl, in_all 72 (by decide +kernel) rfl, in_all 71 (by decide +kernel) rfl, in_all 40 (by decide +kernel) rfl⟩
theorem lk_X3_74 : LV RX3 74 yX5_tick cX5_tick 1 none 0 5 := ⟨⟨in_all 322 (by decide +kernel) rfl, in_all 39 (by decide +kernel) rfl, in_all 319 (by decide +kernel) rfl, by decide +kernel⟩, in_all 320 (by decide +kernel) rfl, in_all 321 (by decide +kernel) rfl, TX5, 4, rfl⟩
theorem lk_X3_77 : LV RX3 77 yX0_comeIfDue cX0_comeIfDue 3 none 1 0 := ⟨⟨in_all 345 (by decide +kernel) rfl, in_all 41 (by decide +kernel) rfl, in_all 342 (by decide +kernel) rfl, by decide +kernel⟩, in_all 343 (by decide +kernel) rfl, in_all 344 (by decide +kernel) rfl, TX0, 5, rfl⟩
theorem lk_X3_80 : LV RX3 80 yX3_passPhase cX3_passPhase 1 (some .boolean) 0 3 := ⟨⟨in_all 318 (by decide +kernel) rfl, in_all 38 (by decide +kernel) rfl, in_all 315 (by decide +kernel) rfl, by decide +kernel⟩, in_all 316 (by decide +kernel) rfl, in_all 317 (by decide +kernel) rfl, TX3, 11, rfl⟩
theorem lk_X3_87 : LV RX3 87 yX5_withCells cX5_withCells 3 (some .int) 2 5 := ⟨⟨in_all 302 (by decide +kernel) rfl, in_all 39 (by decide +kernel) rfl, in_all 299 (by decide +kernel) rfl, by decide +kernel⟩, in_all 300 (by decide +kernel) rfl, in_all 301 (by decide +kernel) rfl, TX5, 4, rfl⟩
theorem lk_X3_91 : LV RX3 91 yX3_passPhases cX3_passPhases 4 (some .int) 1 3 := ⟨⟨in_all 314 (by decide +kernel) rfl, in_all 38 (by decide +kernel) rfl, in_all 311 (by decide +kernel) rfl, by decide +kernel⟩, in_all 312 (by decide +kernel) rfl, in_all 313 (by decide +kernel) rfl, TX3, 11, rfl⟩
theorem lk_X3_95 : LV RX3 95 yX2_add cX2_add 2 none 1 2 := ⟨⟨in_all 394 (by decide +kernel) rfl, in_all 42 (by decide +kernel) rfl, in_all 391 (by decide +kernel) rfl, by decide +kernel⟩, in_all 392 (by decide +kernel) rfl, in_all 393 (by decide +kernel) rfl, TX2, 3, rfl⟩
theorem oi_X4_1 : Cond.methodLink RX4 1 objectInit ∈ lw_all := in_all 213 (by decide +kernel) rfl
theorem lk_X4_17 : LkS RX4 17 yX4_numbersBehind cX4_numbersBehind 1 (some .int) 1 := ⟨⟨in_all 601 (by decide +kernel) rfl, in_all 44 (by decide +kernel) rfl, in_all 599 (by decide +kernel) rfl, by decide +kernel⟩, in_all 600 (by decide +kernel) rfl⟩
theorem lk_X4_25 : LkS RX4 25 yX4_endOfDigits cX4_endOfDigits 4 (some .int) 3 := ⟨⟨in_all 604 (by decide +kernel) rfl, in_all 44 (by decide +kernel) rfl, in_all 602 (by decide +kernel) rfl, by decide +kernel⟩, in_all 603 (by decide +kernel) rfl⟩
theorem lk_X4_29 : LkS RX4 29 yX4_numberIn cX4_numberIn 5 (some .int) 3 := ⟨⟨in_all 607 (by decide +kernel) rfl, in_all 44 (by decide +kernel) rfl, in_all 605 (by decide +kernel) rfl, by decide +kernel⟩, in_all 606 (by decide +kernel) rfl⟩
theorem oi_X5_3 : Cond.methodLink RX5 3 objectInit ∈ lw_all := in_all 67 (by decide +kernel) rfl
theorem ac_X5_27 : AC RX5 27 := ⟨in_all 70 (by decide +kernel) rfl, in_all 72 (by decide +kernel) rfl, in_all 71 (by decide +kernel) rfl, in_all 40 (by decide +kernel) rfl⟩
theorem lk_X5_36 : LV RX5 36 yX5_isLeapYear cX5_isLeapYear 3 (some .boolean) 0 5 := ⟨⟨in_all 332 (by decide +kernel) rfl, in_all 39 (by decide +kernel) rfl, in_all 329 (by decide +kernel) rfl, by decide +kernel⟩, in_all 330 (by decide +kernel) rfl, in_all 331 (by decide +kernel) rfl, TX5, 4, rfl⟩
theorem lk_X5_40 : LV RX5 40 yX5_lastValue cX5_lastValue 2 (some .int) 1 5 := ⟨⟨in_all 326 (by decide +kernel) rfl, in_all 39 (by decide +kernel) rfl, in_all 323 (by decide +kernel) rfl, by decide +kernel⟩, in_all 324 (by decide +kernel) rfl, in_all 325 (by decide +kernel) rfl, TX5, 4, rfl⟩
theorem lk_X5_44 : LV RX5 44 yX5_whyWrong cX5_whyWrong 3 (some .int) 1 5 := ⟨⟨in_all 487 (by decide +kernel) rfl, in_all 39 (by decide +kernel) rfl, in_all 504 (by decide +kernel) rfl, by decide +kernel⟩, in_all 485 (by decide +kernel) rfl, in_all 486 (by decide +kernel) rfl, TX5, 4, rfl⟩
theorem lk_X5_51 : LV RX5 51 yX5_withCells cX5_withCells 3 (some .int) 2 5 := ⟨⟨in_all 302 (by decide +kernel) rfl, in_all 39 (by decide +kernel) rfl, in_all 341 (by decide +kernel) rfl, by decide +kernel⟩, in_all 300 (by decide +kernel) rfl, in_all 301 (by decide +kernel) rfl, TX5, 4, rfl⟩
theorem lk_X5_54 : LkS RX5 54 yJ6_bitCount_0f7a4 cJ6_bitCount_0f7a4 1 (some .int) 1 := ⟨⟨in_all 460 (by decide +kernel) rfl, in_all 46 (by decide +kernel) rfl, in_all 458 (by decide +kernel) rfl, by decide +kernel⟩, in_all 459 (by decide +kernel) rfl⟩
theorem lk_X5_59 : LV RX5 59 yX5_nextValue cX5_nextValue 4 (some .int) 2 5 := ⟨⟨in_all 340 (by decide +kernel) rfl, in_all 39 (by decide +kernel) rfl, in_all 337 (by decide +kernel) rfl, by decide +kernel⟩, in_all 338 (by decide +kernel) rfl, in_all 339 (by decide +kernel) rfl, TX5, 4, rfl⟩
theorem lk_X5_62 : LV RX5 62 yX5_stepOn cX5_stepOn 4 (some .boolean) 2 5 := ⟨⟨in_all 336 (by decide +kernel) rfl, in_all 39 (by decide +kernel) rfl, in_all 333 (by decide +kernel) rfl, by decide +kernel⟩, in_all 334 (by decide +kernel) rfl, in_all 335 (by decide +kernel) rfl, TX5, 4, rfl⟩
theorem lkN_X6_numberOf : LBN yX6_numberOf cX6_numberOf 1 (some .int) 1 := ⟨in_all 483 (by decide +kernel) rfl, in_all 37 (by decide +kernel) rfl, in_all 482 (by decide +kernel) rfl, by decide +kernel⟩
theorem lk_X5_72 : LV RX5 72 yX5_dayOfYear cX5_dayOfYear 3 (some .int) 0 5 := ⟨⟨in_all 514 (by decide +kernel) rfl, in_all 39 (by decide +kernel) rfl, in_all 511 (by decide +kernel) rfl, by decide +kernel⟩, in_all 512 (by decide +kernel) rfl, in_all 513 (by decide +kernel) rfl, TX5, 4, rfl⟩
theorem lk_X5_76 : LV RX5 76 yX5_daysFromStart cX5_daysFromStart 3 (some .int) 0 5 := ⟨⟨in_all 509 (by decide +kernel) rfl, in_all 39 (by decide +kernel) rfl, in_all 521 (by decide +kernel) rfl, by decide +kernel⟩, in_all 507 (by decide +kernel) rfl, in_all 508 (by decide +kernel) rfl, TX5, 4, rfl⟩
theorem oi_X6_1 : Cond.methodLink RX6 1 objectInit ∈ lw_all := in_all 53 (by decide +kernel) rfl
theorem lk_X6_9 : LI RX6 9 yX3_init cX3_init 1 0 := ⟨⟨in_all 60 (by decide +kernel) rfl, in_all 38 (by decide +kernel) rfl, in_all 58 (by decide +kernel) rfl, by decide +kernel⟩, rfl, in_all 59 (by decide +kernel) rfl⟩
theorem lk_X6_21 : LI RX6 21 yX1_init cX1_init 1 0 := ⟨⟨in_all 191 (by decide +kernel) rfl, in_all 43 (by decide +kernel) rfl, in_all 189 (by decide +kernel) rfl, by decide +kernel⟩, rfl, in_all 190 (by decide +kernel) rfl⟩
theorem lk_X6_28 : LI RX6 28 yX4_init cX4_init 1 0 := ⟨⟨in_all 212 (by decide +kernel) rfl, in_all 44 (by decide +kernel) rfl, in_all 210 (by decide +kernel) rfl, by decide +kernel⟩, rfl, in_all 211 (by decide +kernel) rfl⟩
theorem lk_X6_41 : LkS RX6 41 yX6_mayWrite cX6_mayWrite 2 (some .boolean) 2 := ⟨⟨in_all 264 (by decide +kernel) rfl, in_all 37 (by decide +kernel) rfl, in_all 262 (by decide +kernel) rfl, by decide +kernel⟩, in_all 263 (by decide +kernel) rfl⟩
theorem lk_X6_46 : LV RX6 46 yX6_keepState cX6_keepState 3 none 0 6 := ⟨⟨in_all 275 (by decide +kernel) rfl, in_all 37 (by decide +kernel) rfl, in_all 272 (by decide +kernel) rfl, by decide +kernel⟩, in_all 274 (by decide +kernel) rfl, in_all 0 (by decide +kernel) rfl, TX6, 8, rfl⟩
theorem lk_X6_49 : LV RX6 49 yX3_writeRegister cX3_writeRegister 3 (some .int) 2 3 := ⟨⟨in_all 298 (by decide +kernel) rfl, in_all 38 (by decide +kernel) rfl, in_all 295 (by decide +kernel) rfl, by decide +kernel⟩, in_all 296 (by decide +kernel) rfl, in_all 297 (by decide +kernel) rfl, TX3, 11, rfl⟩
theorem lk_X6_53 : LkS RX6 53 yX6_isRegister cX6_isRegister 1 (some .boolean) 1 := ⟨⟨in_all 267 (by decide +kernel) rfl, in_all 37 (by decide +kernel) rfl, in_all 265 (by decide +kernel) rfl, by decide +kernel⟩, in_all 266 (by decide +kernel) rfl⟩
theorem lk_X6_57 : LV RX6 57 yX3_readRegister cX3_readRegister 3 (some .int) 1 3 := ⟨⟨in_all 310 (by decide +kernel) rfl, in_all 38 (by decide +kernel) rfl, in_all 307 (by decide +kernel) rfl, by decide +kernel⟩, in_all 308 (by decide +kernel) rfl, in_all 309 (by decide +kernel) rfl, TX3, 11, rfl⟩
theorem lk_X6_61 : LkS RX6 61 yX6_isMode cX6_isMode 1 (some .boolean) 1 := ⟨⟨in_all 359 (by decide +kernel) rfl, in_all 37 (by decide +kernel) rfl, in_all 357 (by decide +kernel) rfl, by decide +kernel⟩, in_all 358 (by decide +kernel) rfl⟩
theorem lk_X6_64 : LV RX6 64 yX1_make cX1_make 5 none 2 1 := ⟨⟨in_all 363 (by decide +kernel) rfl, in_all 43 (by decide +kernel) rfl, in_all 360 (by decide +kernel) rfl, by decide +kernel⟩, in_all 361 (by decide +kernel) rfl, in_all 362 (by decide +kernel) rfl, TX1, 4, rfl⟩
theorem lk_X6_72 : LkS RX6 72 yX6_mayPass cX6_mayPass 1 (some .boolean) 1 := ⟨⟨in_all 401 (by decide +kernel) rfl, in_all 37 (by decide +kernel) rfl, in_all 399 (by decide +kernel) rfl, by decide +kernel⟩, in_all 400 (by decide +kernel) rfl⟩
theorem lk_X6_75 : LV RX6 75 yX3_passPhases cX3_passPhases 4 (some .int) 1 3 := ⟨⟨in_all 314 (by decide +kernel) rfl, in_all 38 (by decide +kernel) rfl, in_all 402 (by decide +kernel) rfl, by decide +kernel⟩, in_all 312 (by decide +kernel) rfl, in_all 313 (by decide +kernel) rfl, TX3, 11, rfl⟩
theorem lk_X6_78 : LkS RX6 78 yX6_mayChangeAlarm cX6_mayChangeAlarm 3 (some .boolean) 3 := ⟨⟨in_all 409 (by decide +kernel) rfl, in_all 37 (by decide +kernel) rfl, in_all 407 (by decide +kernel) rfl, by decide +kernel⟩, in_all 408 (by decide +kernel) rfl⟩
theorem lk_X6_86 : LV RX6 86 yX0_changeValue cX0_changeValue 5 (some .int) 3 0 := ⟨⟨in_all 416 (by decide +kernel) rfl, in_all 41 (by decide +kernel) rfl, in_all 413 (by decide +kernel) rfl, by decide +kernel⟩, in_all 414 (by decide +kernel) rfl, in_all 415 (by decide +kernel) rfl, TX0, 5, rfl⟩
theorem lk_X6_92 : LkS RX6 92 yX6_isAlarm cX6_isAlarm 1 (some .boolean) 1 := ⟨⟨in_all 412 (by decide +kernel) rfl, in_all 37 (by decide +kernel) rfl, in_all 410 (by decide +kernel) rfl, by decide +kernel⟩, in_all 411 (by decide +kernel) rfl⟩
theorem lk_X6_95 : LkS RX6 95 yX6_isWithin cX6_isWithin 3 (some .boolean) 3 := ⟨⟨in_all 270 (by decide +kernel) rfl, in_all 37 (by decide +kernel) rfl, in_all 268 (by decide +kernel) rfl, by decide +kernel⟩, in_all 269 (by decide +kernel) rfl⟩
theorem lk_X6_98 : LV RX6 98 yX0_changeMask cX0_changeMask 4 (some .int) 2 0 := ⟨⟨in_all 424 (by decide +kernel) rfl, in_all 41 (by decide +kernel) rfl, in_all 421 (by decide +kernel) rfl, by decide +kernel⟩, in_all 422 (by decide +kernel) rfl, in_all 423 (by decide +kernel) rfl, TX0, 5, rfl⟩
theorem lk_X6_105 : LkS RX6 105 yX6_isCell cX6_isCell 2 (some .boolean) 2 := ⟨⟨in_all 435 (by decide +kernel) rfl, in_all 37 (by decide +kernel) rfl, in_all 433 (by decide +kernel) rfl, by decide +kernel⟩, in_all 434 (by decide +kernel) rfl⟩
theorem lk_X6_112 : LV RX6 112 yX5_hasFailed cX5_hasFailed 3 (some .boolean) 2 5 := ⟨⟨in_all 439 (by decide +kernel) rfl, in_all 39 (by decide +kernel) rfl, in_all 436 (by decide +kernel) rfl, by decide +kernel⟩, in_all 437 (by decide +kernel) rfl, in_all 438 (by decide +kernel) rfl, TX5, 4, rfl⟩
theorem lk_X6_118 : LV RX6 118 yX5_failCell cX5_failCell 4 (some .int) 3 5 := ⟨⟨in_all 445 (by decide +kernel) rfl, in_all 39 (by decide +kernel) rfl, in_all 442 (by decide +kernel) rfl, by decide +kernel⟩, in_all 443 (by decide +kernel) rfl, in_all 444 (by decide +kernel) rfl, TX5, 4, rfl⟩
theorem lk_X6_121 : LV RX6 121 yX5_healCell cX5_healCell 3 none 2 5 := ⟨⟨in_all 453 (by decide +kernel) rfl, in_all 39 (by decide +kernel) rfl, in_all 450 (by decide +kernel) rfl, by decide +kernel⟩, in_all 451 (by decide +kernel) rfl, in_all 452 (by decide +kernel) rfl, TX5, 4, rfl⟩
theorem lk_X6_125 : LV RX6 125 yX5_failedCells cX5_failedCells 3 (some .int) 0 5 := ⟨⟨in_all 457 (by decide +kernel) rfl, in_all 39 (by decide +kernel) rfl, in_all 454 (by decide +kernel) rfl, by decide +kernel⟩, in_all 455 (by decide +kernel) rfl, in_all 456 (by decide +kernel) rfl, TX5, 4, rfl⟩
theorem lk_X6_135 : LV RX6 135 yX3_changeSetting cX3_changeSetting 4 (some .int) 2 3 := ⟨⟨in_all 475 (by decide +kernel) rfl, in_all 38 (by decide +kernel) rfl, in_all 472 (by decide +kernel) rfl, by decide +kernel⟩, in_all 473 (by decide +kernel) rfl, in_all 474 (by decide +kernel) rfl, TX3, 11, rfl⟩
theorem lk_X6_138 : LV RX6 138 yX5_lastValue cX5_lastValue 2 (some .int) 1 5 := ⟨⟨in_all 326 (by decide +kernel) rfl, in_all 39 (by decide +kernel) rfl, in_all 480 (by decide +kernel) rfl, by decide +kernel⟩, in_all 324 (by decide +kernel) rfl, in_all 325 (by decide +kernel) rfl, TX5, 4, rfl⟩
theorem lk_X6_144 : LkS RX6 144 yX6_numberOf cX6_numberOf 1 (some .int) 1 := ⟨⟨in_all 483 (by decide +kernel) rfl, in_all 37 (by decide +kernel) rfl, in_all 481 (by decide +kernel) rfl, by decide +kernel⟩, in_all 482 (by decide +kernel) rfl⟩
theorem lk_X6_147 : LV RX6 147 yX5_whyWrong cX5_whyWrong 3 (some .int) 1 5 := ⟨⟨in_all 487 (by decide +kernel) rfl, in_all 39 (by decide +kernel) rfl, in_all 484 (by decide +kernel) rfl, by decide +kernel⟩, in_all 485 (by decide +kernel) rfl, in_all 486 (by decide +kernel) rfl, TX5, 4, rfl⟩
theorem lk_X6_156 : LV RX6 156 yX5_nextValue cX5_nextValue 4 (some .int) 2 5 := ⟨⟨in_all 340 (by decide +kernel) rfl, in_all 39 (by decide +kernel) rfl, in_all 488 (by decide +kernel) rfl, by decide +kernel⟩, in_all 338 (by decide +kernel) rfl, in_all 339 (by decide +kernel) rfl, TX5, 4, rfl⟩
theorem lk_X6_159 : LV RX6 159 yX5_withCells cX5_withCells 3 (some .int) 2 5 := ⟨⟨in_all 302 (by decide +kernel) rfl, in_all 39 (by decide +kernel) rfl, in_all 489 (by decide +kernel) rfl, by decide +kernel⟩, in_all 300 (by decide +kernel) rfl, in_all 301 (by decide +kernel) rfl, TX5, 4, rfl⟩
theorem lk_X6_171 : LkS RX6 171 yX6_bitOf cX6_bitOf 2 (some .int) 2 := ⟨⟨in_all 348 (by decide +kernel) rfl, in_all 37 (by decide +kernel) rfl, in_all 494 (by decide +kernel) rfl, by decide +kernel⟩, in_all 347 (by decide +kernel) rfl⟩
theorem lk_X6_177 : LV RX6 177 yX0_matches cX0_matches 5 (some .boolean) 2 0 := ⟨⟨in_all 352 (by decide +kernel) rfl, in_all 41 (by decide +kernel) rfl, in_all 495 (by decide +kernel) rfl, by decide +kernel⟩, in_all 350 (by decide +kernel) rfl, in_all 351 (by decide +kernel) rfl, TX0, 5, rfl⟩
theorem lk_X6_181 : LV RX6 181 yX5_isDateRight cX5_isDateRight 1 (some .boolean) 0 5 := ⟨⟨in_all 503 (by decide +kernel) rfl, in_all 39 (by decide +kernel) rfl, in_all 500 (by decide +kernel) rfl, by decide +kernel⟩, in_all 501 (by decide +kernel) rfl, in_all 502 (by decide +kernel) rfl, TX5, 4, rfl⟩
theorem lk_X6_186 : LV RX6 186 yX5_daysFromStart cX5_daysFromStart 3 (some .int) 0 5 := ⟨⟨in_all 509 (by decide +kernel) rfl, in_all 39 (by decide +kernel) rfl, in_all 506 (by decide +kernel) rfl, by decide +kernel⟩, in_all 507 (by decide +kernel) rfl, in_all 508 (by decide +kernel) rfl, TX5, 4, rfl⟩
theorem lk_X6_189 : LV RX6 189 yX5_weekdayByDate cX5_weekdayByDate 1 (some .int) 0 5 := ⟨⟨in_all 520 (by decide +kernel) rfl, in_all 39 (by decide +kernel) rfl, in_all 517 (by decide +kernel) rfl, by decide +kernel⟩, in_all 518 (by decide +kernel) rfl, in_all 519 (by decide +kernel) rfl, TX5, 4, rfl⟩
theorem lk_X6_192 : LV RX6 192 yX5_daysOfYear cX5_daysOfYear 1 (some .int) 0 5 := ⟨⟨in_all 525 (by decide +kernel) rfl, in_all 39 (by decide +kernel) rfl, in_all 522 (by decide +kernel) rfl, by decide +kernel⟩, in_all 523 (by decide +kernel) rfl, in_all 524 (by decide +kernel) rfl, TX5, 4, rfl⟩
theorem lk_X6_195 : LV RX6 195 yX5_dayOfYear cX5_dayOfYear 3 (some .int) 0 5 := ⟨⟨in_all 514 (by decide +kernel) rfl, in_all 39 (by decide +kernel) rfl, in_all 526 (by decide +kernel) rfl, by decide +kernel⟩, in_all 512 (by decide +kernel) rfl, in_all 513 (by decide +kernel) rfl, TX5, 4, rfl⟩
theorem lk_X6_207 : LV RX6 207 yX2_told cX2_told 4 (some .int) 2 2 := ⟨⟨in_all 534 (by decide +kernel) rfl, in_all 42 (by decide +kernel) rfl, in_all 531 (by decide +kernel) rfl, by decide +kernel⟩, in_all 532 (by decide +kernel) rfl, in_all 533 (by decide +kernel) rfl, TX2, 3, rfl⟩
theorem lk_X6_216 : LV RX6 216 yX3_copyFrom cX3_copyFrom 2 none 1 3 := ⟨⟨in_all 279 (by decide +kernel) rfl, in_all 38 (by decide +kernel) rfl, in_all 276 (by decide +kernel) rfl, by decide +kernel⟩, in_all 277 (by decide +kernel) rfl, in_all 278 (by decide +kernel) rfl, TX3, 11, rfl⟩
theorem lk_X6_220 : LV RX6 220 yX5_copyFrom cX5_copyFrom 2 none 1 5 := ⟨⟨in_all 283 (by decide +kernel) rfl, in_all 39 (by decide +kernel) rfl, in_all 551 (by decide +kernel) rfl, by decide +kernel⟩, in_all 281 (by decide +kernel) rfl, in_all 282 (by decide +kernel) rfl, TX5, 4, rfl⟩
theorem lk_X6_223 : LV RX6 223 yX5_tick cX5_tick 1 none 0 5 := ⟨⟨in_all 322 (by decide +kernel) rfl, in_all 39 (by decide +kernel) rfl, in_all 552 (by decide +kernel) rfl, by decide +kernel⟩, in_all 320 (by decide +kernel) rfl, in_all 321 (by decide +kernel) rfl, TX5, 4, rfl⟩
theorem lk_X6_232 : LkS RX6 232 yX6_bitsOfShare cX6_bitsOfShare 3 (some .int) 1 := ⟨⟨in_all 559 (by decide +kernel) rfl, in_all 37 (by decide +kernel) rfl, in_all 557 (by decide +kernel) rfl, by decide +kernel⟩, in_all 558 (by decide +kernel) rfl⟩
theorem lk_X6_239 : LV RX6 239 yX5_wrongOnes cX5_wrongOnes 3 (some .int) 0 5 := ⟨⟨in_all 569 (by decide +kernel) rfl, in_all 39 (by decide +kernel) rfl, in_all 566 (by decide +kernel) rfl, by decide +kernel⟩, in_all 567 (by decide +kernel) rfl, in_all 568 (by decide +kernel) rfl, TX5, 4, rfl⟩
theorem lk_X6_242 : LV RX6 242 yX0_cameInAll cX0_cameInAll 3 (some .int) 0 0 := ⟨⟨in_all 573 (by decide +kernel) rfl, in_all 41 (by decide +kernel) rfl, in_all 570 (by decide +kernel) rfl, by decide +kernel⟩, in_all 571 (by decide +kernel) rfl, in_all 572 (by decide +kernel) rfl, TX0, 5, rfl⟩
theorem lk_X6_261 : LV RX6 261 yX6_findFault cX6_findFault 3 (some .int) 0 6 := ⟨⟨in_all 594 (by decide +kernel) rfl, in_all 37 (by decide +kernel) rfl, in_all 591 (by decide +kernel) rfl, by decide +kernel⟩, in_all 593 (by decide +kernel) rfl, in_all 1 (by decide +kernel) rfl, TX6, 8, rfl⟩
theorem lk_X6_271 : LV RX6 271 yX4_parse cX4_parse 9 none 3 4 := ⟨⟨in_all 598 (by decide +kernel) rfl, in_all 44 (by decide +kernel) rfl, in_all 595 (by decide +kernel) rfl, by decide +kernel⟩, in_all 596 (by decide +kernel) rfl, in_all 597 (by decide +kernel) rfl, TX4, 4, rfl⟩
theorem lk_X6_282 : LkS RX6 282 yX6_mayDo cX6_mayDo 2 (some .boolean) 1 := ⟨⟨in_all 610 (by decide +kernel) rfl, in_all 37 (by decide +kernel) rfl, in_all 608 (by decide +kernel) rfl, by decide +kernel⟩, in_all 609 (by decide +kernel) rfl⟩
theorem oi_X7_1 : Cond.methodLink RX7 1 objectInit ∈ lw_all := in_all 620 (by decide +kernel) rfl
theorem lk_X7_45 : LkS RX7 45 yX7_in cX7_in 3 (some .boolean) 3 := ⟨⟨in_all 688 (by decide +kernel) rfl, in_all 45 (by decide +kernel) rfl, in_all 686 (by decide +kernel) rfl, by decide +kernel⟩, in_all 687 (by decide +kernel) rfl⟩
theorem lk_X7_49 : LV RX7 49 yX7_number cX7_number 3 (some .int) 1 7 := ⟨⟨in_all 729 (by decide +kernel) rfl, in_all 45 (by decide +kernel) rfl, in_all 726 (by decide +kernel) rfl, by decide +kernel⟩, in_all 728 (by decide +kernel) rfl, in_all 10 (by decide +kernel) rfl, TX7, 19, rfl⟩
theorem lk_X7_53 : LV RX7 53 yX7_monthLength cX7_monthLength 1 (some .int) 0 7 := ⟨⟨in_all 740 (by decide +kernel) rfl, in_all 45 (by decide +kernel) rfl, in_all 737 (by decide +kernel) rfl, by decide +kernel⟩, in_all 739 (by decide +kernel) rfl, in_all 12 (by decide +kernel) rfl, TX7, 19, rfl⟩
theorem lk_X7_57 : LkS RX7 57 yX7_first cX7_first 1 (some .int) 1 := ⟨⟨in_all 732 (by decide +kernel) rfl, in_all 45 (by decide +kernel) rfl, in_all 730 (by decide +kernel) rfl, by decide +kernel⟩, in_all 731 (by decide +kernel) rfl⟩
theorem lk_X7_60 : LV RX7 60 yX7_last cX7_last 2 (some .int) 1 7 := ⟨⟨in_all 736 (by decide +kernel) rfl, in_all 45 (by decide +kernel) rfl, in_all 733 (by decide +kernel) rfl, by decide +kernel⟩, in_all 735 (by decide +kernel) rfl, in_all 11 (by decide +kernel) rfl, TX7, 19, rfl⟩
theorem lk_X7_63 : LV RX7 63 yX7_isWithin cX7_isWithin 5 (some .boolean) 3 7 := ⟨⟨in_all 744 (by decide +kernel) rfl, in_all 45 (by decide +kernel) rfl, in_all 741 (by decide +kernel) rfl, by decide +kernel⟩, in_all 743 (by decide +kernel) rfl, in_all 13 (by decide +kernel) rfl, TX7, 19, rfl⟩
theorem lk_X7_66 : LV RX7 66 yX7_isLeap cX7_isLeap 1 (some .boolean) 0 7 := ⟨⟨in_all 748 (by decide +kernel) rfl, in_all 45 (by decide +kernel) rfl, in_all 745 (by decide +kernel) rfl, by decide +kernel⟩, in_all 747 (by decide +kernel) rfl, in_all 14 (by decide +kernel) rfl, TX7, 19, rfl⟩
theorem lk_X7_70 : LkS RX7 70 yX7_lengthOf cX7_lengthOf 2 (some .int) 2 := ⟨⟨in_all 751 (by decide +kernel) rfl, in_all 45 (by decide +kernel) rfl, in_all 749 (by decide +kernel) rfl, by decide +kernel⟩, in_all 750 (by decide +kernel) rfl⟩
theorem lk_X7_74 : LV RX7 74 yX7_rolls cX7_rolls 2 (some .boolean) 1 7 := ⟨⟨in_all 721 (by decide +kernel) rfl, in_all 45 (by decide +kernel) rfl, in_all 718 (by decide +kernel) rfl, by decide +kernel⟩, in_all 720 (by decide +kernel) rfl, in_all 8 (by decide +kernel) rfl, TX7, 19, rfl⟩
theorem lk_X7_78 : LV RX7 78 yX7_wrong cX7_wrong 3 (some .int) 1 7 := ⟨⟨in_all 725 (by decide +kernel) rfl, in_all 45 (by decide +kernel) rfl, in_all 722 (by decide +kernel) rfl, by decide +kernel⟩, in_all 724 (by decide +kernel) rfl, in_all 9 (by decide +kernel) rfl, TX7, 19, rfl⟩
theorem lk_X7_81 : LV RX7 81 yX7_stepped cX7_stepped 3 (some .int) 1 7 := ⟨⟨in_all 755 (by decide +kernel) rfl, in_all 45 (by decide +kernel) rfl, in_all 752 (by decide +kernel) rfl, by decide +kernel⟩, in_all 754 (by decide +kernel) rfl, in_all 15 (by decide +kernel) rfl, TX7, 19, rfl⟩
theorem lk_X7_84 : LV RX7 84 yX7_puts cX7_puts 4 none 2 7 := ⟨⟨in_all 697 (by decide +kernel) rfl, in_all 45 (by decide +kernel) rfl, in_all 694 (by decide +kernel) rfl, by decide +kernel⟩, in_all 696 (by decide +kernel) rfl, in_all 3 (by decide +kernel) rfl, TX7, 19, rfl⟩
theorem lk_X7_88 : LkS RX7 88 yX7_alarmAt cX7_alarmAt 1 (some .int) 1 := ⟨⟨in_all 758 (by decide +kernel) rfl, in_all 45 (by decide +kernel) rfl, in_all 756 (by decide +kernel) rfl, by decide +kernel⟩, in_all 757 (by decide +kernel) rfl⟩
theorem lk_X7_91 : LV RX7 91 yX7_steps cX7_steps 3 (some .boolean) 1 7 := ⟨⟨in_all 717 (by decide +kernel) rfl, in_all 45 (by decide +kernel) rfl, in_all 714 (by decide +kernel) rfl, by decide +kernel⟩, in_all 716 (by decide +kernel) rfl, in_all 7 (by decide +kernel) rfl, TX7, 19, rfl⟩
theorem lk_X7_94 : LV RX7 94 yX7_matches cX7_matches 5 (some .boolean) 1 7 := ⟨⟨in_all 762 (by decide +kernel) rfl, in_all 45 (by decide +kernel) rfl, in_all 759 (by decide +kernel) rfl, by decide +kernel⟩, in_all 761 (by decide +kernel) rfl, in_all 16 (by decide +kernel) rfl, TX7, 19, rfl⟩
theorem lk_X7_97 : LV RX7 97 yX7_tick cX7_tick 4 none 0 7 := ⟨⟨in_all 713 (by decide +kernel) rfl, in_all 45 (by decide +kernel) rfl, in_all 710 (by decide +kernel) rfl, by decide +kernel⟩, in_all 712 (by decide +kernel) rfl, in_all 6 (by decide +kernel) rfl, TX7, 19, rfl⟩
theorem lk_X7_100 : LV RX7 100 yX7_phase cX7_phase 2 (some .boolean) 0 7 := ⟨⟨in_all 709 (by decide +kernel) rfl, in_all 45 (by decide +kernel) rfl, in_all 706 (by decide +kernel) rfl, by decide +kernel⟩, in_all 708 (by decide +kernel) rfl, in_all 5 (by decide +kernel) rfl, TX7, 19, rfl⟩
theorem lk_X7_103 : LkS RX7 103 yX7_isRegister cX7_isRegister 1 (some .boolean) 1 := ⟨⟨in_all 685 (by decide +kernel) rfl, in_all 45 (by decide +kernel) rfl, in_all 683 (by decide +kernel) rfl, by decide +kernel⟩, in_all 684 (by decide +kernel) rfl⟩
theorem lk_X7_107 : LV RX7 107 yX7_changes cX7_changes 2 none 0 7 := ⟨⟨in_all 693 (by decide +kernel) rfl, in_all 45 (by decide +kernel) rfl, in_all 690 (by decide +kernel) rfl, by decide +kernel⟩, in_all 692 (by decide +kernel) rfl, in_all 2 (by decide +kernel) rfl, TX7, 19, rfl⟩
theorem lk_X7_110 : LV RX7 110 yX7_passes cX7_passes 4 (some .int) 1 7 := ⟨⟨in_all 705 (by decide +kernel) rfl, in_all 45 (by decide +kernel) rfl, in_all 702 (by decide +kernel) rfl, by decide +kernel⟩, in_all 704 (by decide +kernel) rfl, in_all 4 (by decide +kernel) rfl, TX7, 19, rfl⟩
theorem lk_X7_117 : LV RX7 117 yX7_shows cX7_shows 2 none 0 7 := ⟨⟨in_all 779 (by decide +kernel) rfl, in_all 45 (by decide +kernel) rfl, in_all 776 (by decide +kernel) rfl, by decide +kernel⟩, in_all 778 (by decide +kernel) rfl, in_all 19 (by decide +kernel) rfl, TX7, 19, rfl⟩
theorem lk_X7_119 : LV RX7 119 yX7_readsAll cX7_readsAll 4 none 0 7 := ⟨⟨in_all 775 (by decide +kernel) rfl, in_all 45 (by decide +kernel) rfl, in_all 772 (by decide +kernel) rfl, by decide +kernel⟩, in_all 774 (by decide +kernel) rfl, in_all 18 (by decide +kernel) rfl, TX7, 19, rfl⟩
theorem lk_X7_122 : LV RX7 122 yX7_isAsAhead cX7_isAsAhead 3 (some .boolean) 0 7 := ⟨⟨in_all 791 (by decide +kernel) rfl, in_all 45 (by decide +kernel) rfl, in_all 788 (by decide +kernel) rfl, by decide +kernel⟩, in_all 790 (by decide +kernel) rfl, in_all 22 (by decide +kernel) rfl, TX7, 19, rfl⟩
theorem lk_X7_125 : LV RX7 125 yX7_readsAtOnce cX7_readsAtOnce 2 none 0 7 := ⟨⟨in_all 783 (by decide +kernel) rfl, in_all 45 (by decide +kernel) rfl, in_all 780 (by decide +kernel) rfl, by decide +kernel⟩, in_all 782 (by decide +kernel) rfl, in_all 20 (by decide +kernel) rfl, TX7, 19, rfl⟩
theorem lk_X7_128 : LV RX7 128 yX7_readsAgain cX7_readsAgain 4 (some .int) 0 7 := ⟨⟨in_all 787 (by decide +kernel) rfl, in_all 45 (by decide +kernel) rfl, in_all 784 (by decide +kernel) rfl, by decide +kernel⟩, in_all 786 (by decide +kernel) rfl, in_all 21 (by decide +kernel) rfl, TX7, 19, rfl⟩
theorem lk_X7_131 : LV RX7 131 yX7_wasShown cX7_wasShown 4 (some .boolean) 0 7 := ⟨⟨in_all 795 (by decide +kernel) rfl, in_all 45 (by decide +kernel) rfl, in_all 792 (by decide +kernel) rfl, by decide +kernel⟩, in_all 794 (by decide +kernel) rfl, in_all 23 (by decide +kernel) rfl, TX7, 19, rfl⟩
theorem lk_X7_134 : LV RX7 134 yX7_bursts cX7_bursts 5 (some .int) 1 7 := ⟨⟨in_all 771 (by decide +kernel) rfl, in_all 45 (by decide +kernel) rfl, in_all 768 (by decide +kernel) rfl, by decide +kernel⟩, in_all 770 (by decide +kernel) rfl, in_all 17 (by decide +kernel) rfl, TX7, 19, rfl⟩
theorem lk_X7_137 : LkS RX7 137 yX7_isAlarm cX7_isAlarm 1 (some .boolean) 1 := ⟨⟨in_all 806 (by decide +kernel) rfl, in_all 45 (by decide +kernel) rfl, in_all 804 (by decide +kernel) rfl, by decide +kernel⟩, in_all 805 (by decide +kernel) rfl⟩
theorem lk_X7_140 : LV RX7 140 yX7_flags cX7_flags 3 (some .int) 0 7 := ⟨⟨in_all 818 (by decide +kernel) rfl, in_all 45 (by decide +kernel) rfl, in_all 815 (by decide +kernel) rfl, by decide +kernel⟩, in_all 817 (by decide +kernel) rfl, in_all 24 (by decide +kernel) rfl, TX7, 19, rfl⟩
theorem lk_X7_143 : LkS RX7 143 yX7_bits cX7_bits 3 (some .int) 1 := ⟨⟨in_all 834 (by decide +kernel) rfl, in_all 45 (by decide +kernel) rfl, in_all 832 (by decide +kernel) rfl, by decide +kernel⟩, in_all 833 (by decide +kernel) rfl⟩
theorem lk_X7_147 : LV RX7 147 yX7_failed cX7_failed 3 (some .int) 0 7 := ⟨⟨in_all 831 (by decide +kernel) rfl, in_all 45 (by decide +kernel) rfl, in_all 828 (by decide +kernel) rfl, by decide +kernel⟩, in_all 830 (by decide +kernel) rfl, in_all 25 (by decide +kernel) rfl, TX7, 19, rfl⟩
theorem lk_X7_150 : LV RX7 150 yX7_wouldStep cX7_wouldStep 3 (some .int) 1 7 := ⟨⟨in_all 846 (by decide +kernel) rfl, in_all 45 (by decide +kernel) rfl, in_all 843 (by decide +kernel) rfl, by decide +kernel⟩, in_all 845 (by decide +kernel) rfl, in_all 26 (by decide +kernel) rfl, TX7, 19, rfl⟩
theorem lk_X7_153 : LV RX7 153 yX7_daysAhead cX7_daysAhead 4 (some .int) 1 7 := ⟨⟨in_all 862 (by decide +kernel) rfl, in_all 45 (by decide +kernel) rfl, in_all 859 (by decide +kernel) rfl, by decide +kernel⟩, in_all 861 (by decide +kernel) rfl, in_all 28 (by decide +kernel) rfl, TX7, 19, rfl⟩
theorem lk_X7_157 : LV RX7 157 yX7_daysBehind cX7_daysBehind 2 (some .int) 0 7 := ⟨⟨in_all 858 (by decide +kernel) rfl, in_all 45 (by decide +kernel) rfl, in_all 855 (by decide +kernel) rfl, by decide +kernel⟩, in_all 857 (by decide +kernel) rfl, in_all 27 (by decide +kernel) rfl, TX7, 19, rfl⟩
theorem lk_X7_160 : LkS RX7 160 yX7_copies cX7_copies 3 none 2 := ⟨⟨in_all 881 (by decide +kernel) rfl, in_all 45 (by decide +kernel) rfl, in_all 879 (by decide +kernel) rfl, by decide +kernel⟩, in_all 880 (by decide +kernel) rfl⟩
theorem lk_X7_164 : LkS RX7 164 yJxf58ca_floatToIntBits_5c35a cJxf58ca_floatToIntBits_5c35a 1 (some .int) 1 := ⟨⟨in_all 892 (by decide +kernel) rfl, in_all 47 (by decide +kernel) rfl, in_all 890 (by decide +kernel) rfl, by decide +kernel⟩, in_all 891 (by decide +kernel) rfl⟩
theorem lk_X7_170 : LV RX7 170 yX7_wrongOnes cX7_wrongOnes 3 (some .int) 0 7 := ⟨⟨in_all 907 (by decide +kernel) rfl, in_all 45 (by decide +kernel) rfl, in_all 904 (by decide +kernel) rfl, by decide +kernel⟩, in_all 906 (by decide +kernel) rfl, in_all 29 (by decide +kernel) rfl, TX7, 19, rfl⟩
theorem lk_X7_180 : LV RX7 180 yX7_isAt cX7_isAt 3 (some .boolean) 2 7 := ⟨⟨in_all 936 (by decide +kernel) rfl, in_all 45 (by decide +kernel) rfl, in_all 933 (by decide +kernel) rfl, by decide +kernel⟩, in_all 935 (by decide +kernel) rfl, in_all 32 (by decide +kernel) rfl, TX7, 19, rfl⟩
theorem lk_X7_187 : LkS RX7 187 yX7_numbersOf cX7_numbersOf 1 (some .int) 1 := ⟨⟨in_all 939 (by decide +kernel) rfl, in_all 45 (by decide +kernel) rfl, in_all 937 (by decide +kernel) rfl, by decide +kernel⟩, in_all 938 (by decide +kernel) rfl⟩
theorem lk_X7_190 : LV RX7 190 yX7_numbered cX7_numbered 3 (some .boolean) 1 7 := ⟨⟨in_all 943 (by decide +kernel) rfl, in_all 45 (by decide +kernel) rfl, in_all 940 (by decide +kernel) rfl, by decide +kernel⟩, in_all 942 (by decide +kernel) rfl, in_all 33 (by decide +kernel) rfl, TX7, 19, rfl⟩
theorem lk_X7_193 : LV RX7 193 yX7_sign cX7_sign 3 (some .boolean) 1 7 := ⟨⟨in_all 947 (by decide +kernel) rfl, in_all 45 (by decide +kernel) rfl, in_all 944 (by decide +kernel) rfl, by decide +kernel⟩, in_all 946 (by decide +kernel) rfl, in_all 34 (by decide +kernel) rfl, TX7, 19, rfl⟩
theorem lk_X7_196 : LV RX7 196 yX7_write cX7_write 3 (some .int) 2 7 := ⟨⟨in_all 682 (by decide +kernel) rfl, in_all 45 (by decide +kernel) rfl, in_all 952 (by decide +kernel) rfl, by decide +kernel⟩, in_all 680 (by decide +kernel) rfl, in_all 681 (by decide +kernel) rfl, TX7, 19, rfl⟩
theorem lk_X7_200 : LV RX7 200 yX7_read cX7_read 3 (some .int) 1 7 := ⟨⟨in_all 701 (by decide +kernel) rfl, in_all 45 (by decide +kernel) rfl, in_all 953 (by decide +kernel) rfl, by decide +kernel⟩, in_all 699 (by decide +kernel) rfl, in_all 700 (by decide +kernel) rfl, TX7, 19, rfl⟩
theorem lk_X7_203 : LV RX7 203 yX7_burst cX7_burst 2 (some .int) 1 7 := ⟨⟨in_all 767 (by decide +kernel) rfl, in_all 45 (by decide +kernel) rfl, in_all 954 (by decide +kernel) rfl, by decide +kernel⟩, in_all 765 (by decide +kernel) rfl, in_all 766 (by decide +kernel) rfl, TX7, 19, rfl⟩
theorem lk_X7_206 : LV RX7 206 yX7_pass cX7_pass 2 (some .int) 1 7 := ⟨⟨in_all 799 (by decide +kernel) rfl, in_all 45 (by decide +kernel) rfl, in_all 955 (by decide +kernel) rfl, by decide +kernel⟩, in_all 797 (by decide +kernel) rfl, in_all 798 (by decide +kernel) rfl, TX7, 19, rfl⟩
theorem lk_X7_209 : LV RX7 209 yX7_alarm cX7_alarm 5 (some .int) 3 7 := ⟨⟨in_all 803 (by decide +kernel) rfl, in_all 45 (by decide +kernel) rfl, in_all 956 (by decide +kernel) rfl, by decide +kernel⟩, in_all 801 (by decide +kernel) rfl, in_all 802 (by decide +kernel) rfl, TX7, 19, rfl⟩
theorem lk_X7_213 : LV RX7 213 yX7_arm cX7_arm 5 (some .int) 2 7 := ⟨⟨in_all 810 (by decide +kernel) rfl, in_all 45 (by decide +kernel) rfl, in_all 957 (by decide +kernel) rfl, by decide +kernel⟩, in_all 808 (by decide +kernel) rfl, in_all 809 (by decide +kernel) rfl, TX7, 19, rfl⟩
theorem lk_X7_222 : LV RX7 222 yX7_reads cX7_reads 4 (some .boolean) 0 7 := ⟨⟨in_all 932 (by decide +kernel) rfl, in_all 45 (by decide +kernel) rfl, in_all 929 (by decide +kernel) rfl, by decide +kernel⟩, in_all 931 (by decide +kernel) rfl, in_all 31 (by decide +kernel) rfl, TX7, 19, rfl⟩
theorem lk_X7_225 : LV RX7 225 yX7_does cX7_does 1 (some .int) 0 7 := ⟨⟨in_all 951 (by decide +kernel) rfl, in_all 45 (by decide +kernel) rfl, in_all 948 (by decide +kernel) rfl, by decide +kernel⟩, in_all 950 (by decide +kernel) rfl, in_all 35 (by decide +kernel) rfl, TX7, 19, rfl⟩
theorem lk_X7_234 : LV RX7 234 yX7_plays cX7_plays 4 (some .boolean) 0 7 := ⟨⟨in_all 928 (by decide +kernel) rfl, in_all 45 (by decide +kernel) rfl, in_all 925 (by decide +kernel) rfl, by decide +kernel⟩, in_all 927 (by decide +kernel) rfl, in_all 30 (by decide +kernel) rfl, TX7, 19, rfl⟩
theorem oi_i : Cond.instanceMethod objectInit ∈ lw_all := in_all 54 (by decide +kernel) rfl
theorem oi_c : Cond.code objectInit ⟨#[0xb1]⟩ 1 none ∈ lw_all := in_all 55 (by decide +kernel) rfl
theorem sw_X6_129 : Cond.fieldLink RX6 129 RX6 "LEAST_SETTING" "[I" ∈ lw_all := in_all 468 (by decide +kernel) rfl
theorem sw_X6_132 : Cond.fieldLink RX6 132 RX6 "MOST_SETTING" "[I" ∈ lw_all := in_all 470 (by decide +kernel) rfl
end
section
/-! what a state is: the reference's world (one row of numbers and what stands beside it), the class's by blocks -/
abbrev Row : Type := Nat → Int32
/-- past, pasts, runs, told, ahead, shown, shows, text, typed, numbers, spot, from, reason, cause, orders, order, spare, held -/
abbrev MT : Type := Row × Int32 × Int32 × Row × Row × Row × Int32 × Row × Int32 × Row × Int32 × Int32 × Int32 × Int32 × Int32 × Int32 × Row × Row
abbrev MSt : Type := Row × MT
def mW (D : va_G) (L : Nat → Nat) (S : MSt) : va_W :=
  [(L 0, .inr (7, [.ref (L 1), .ref (L 2), .ref (L 3), .ref (L 4), .int S.2.2.1, .int S.2.2.2.1, .ref (L 5), .int S.2.2.2.2.2.2.2.2.2.1, .ref (L 6), .ref (L 7), .ref (L 8), .int S.2.2.2.2.2.2.2.1, .int S.2.2.2.2.2.2.2.2.2.2.2.1, .int S.2.2.2.2.2.2.2.2.2.2.2.2.1, .int S.2.2.2.2.2.2.2.2.2.2.2.2.2.1, .int S.2.2.2.2.2.2.2.2.2.2.2.2.2.2.1, .int S.2.2.2.2.2.2.2.2.2.2.2.2.2.2.2.1, .int S.2.2.2.2.2.2.2.2.2.2.2.2.2.2.2.2.1, .ref (L 9)])),
   (L 1, .inl (D.1 100, 127, .inl S.1)), (L 2, .inl (D.1 100, 508, .inl S.2.1)), (L 3, .inl (D.1 100, 127, .inl S.2.2.2.2.2.2.2.2.2.2.2.2.2.2.2.2.2.1)), (L 4, .inl (D.1 100, 127, .inl S.2.2.2.2.2.2.2.2.2.2.2.2.2.2.2.2.2.2)),
   (L 5, .inl (D.1 100, 60, .inl S.2.2.2.2.2.2.2.2.1)), (L 6, .inl (D.1 100, 7, .inl S.2.2.2.2.1)), (L 7, .inl (D.1 100, 7, .inl S.2.2.2.2.2.1)), (L 8, .inl (D.1 100, 105, .inl S.2.2.2.2.2.2.1)), (L 9, .inl (D.1 100, 3, .inl S.2.2.2.2.2.2.2.2.2.2.1))]
theorem nar_b {v : Int32} (h : v = 0 ∨ v = 1) : narrow .boolean (.int v) = .int v := by
  rcases h with rfl | rfl <;> rfl
theorem cpy_step0 (f g : Row) (dp i : Nat) : upd (va_cpy f g 0 dp i) (dp + i) (f i) = va_cpy f g 0 dp (i + 1) := by
  funext k
  simp only [upd, va_cpy]
  by_cases h : k = dp + i
  · subst h
    rw [if_pos rfl, if_pos (by omega)]
    exact congrArg f (by omega)
  · rw [if_neg h]
    by_cases h2 : dp ≤ k ∧ k < dp + i
    · rw [if_pos h2, if_pos (by omega)]
    · rw [if_neg h2, if_neg (by omega)]
theorem cpy_step00 (f g : Row) (i : Nat) : upd (va_cpy f g 0 0 i) i (f i) = va_cpy f g 0 0 (i + 1) := by
  have h := cpy_step0 f g 0 i
  rw [Nat.zero_add] at h
  exact h
theorem cpy_0 (f g : Row) (sp dp : Nat) : va_cpy f g sp dp 0 = g := by
  funext k
  simp only [va_cpy]
  rw [if_neg (by omega)]
theorem shift_step (f : Row) (d i : Nat) : upd (va_cpy f f d 0 i) i (va_cpy f f d 0 i (i + d)) = va_cpy f f d 0 (i + 1) := by
  funext k
  simp only [upd, va_cpy]
  by_cases h : k = i
  · subst h
    rw [if_pos rfl, if_neg (by omega), if_pos (by omega)]
    exact congrArg f (by omega)
  · rw [if_neg h]
    by_cases h2 : 0 ≤ k ∧ k < 0 + i
    · rw [if_pos h2, if_pos (by omega)]
    · rw [if_neg h2, if_neg (by omega)]
/-- a state is put behind the others; the oldest goes where there are four -/
def pushR (s pa : Row) (P : Nat) : Row × Nat := if P = 4 then (va_cpy s (va_cpy pa pa 127 0 381) 0 (127 * 3) 127, 3 + 1) else (va_cpy s pa 0 (127 * P) 127, P + 1)
theorem upd_eq (f : Row) (k : Nat) (x : Int32) : upd f k x k = x := if_pos rfl
theorem upd_ne (f : Row) {k j : Nat} (x : Int32) (h : j ≠ k) : upd f k x j = f j := if_neg h
theorem r_idecN {p : Program} {l : Launch} {e : Env} {R : Room} {s : State} {m : MethodId} {args : Array Value} {below : List Frame} {meth : Method} {c : Code} {H : Heap} {locs : List Loc} {cells slots : Nat} {Q : State → Prop} {cc : ByteArray} {pc : Nat} {ls : Array Slot} {rest : List Value} {x : Int32} (hx : p.tables.exec = Jvm.exec) (hb : c.code = cc) {v nL k : Nat} {lv lv' : List (Nat × Value)} (i : Nat) (hd : 1 ≤ i) (hdg : decode cc pc = .ok (.iinc v (-1), 3)) (h : lv_has ls nL lv) (hk : lv[k]? = some (v, .int x)) (ex : x = nI i) (hv : v < nL) (hl : (v, Value.int (nI (i - 1))) :: lv.filter (fun q => !(q.1 == v) && !(q.1 + 1 == v && q.2.category == 2)) = lv')
    (kk : ∀ ls' : Array Slot, lv_has ls' nL lv' → W p l e R s m args below meth c H locs cells slots Q (F0 m (pc + 3) ls' rest)) : W p l e R s m args below meth c H locs cells slots Q (F0 m pc ls rest) := by
  subst ex
  obtain ⟨j, rfl⟩ : ∃ j, i = j + 1 := ⟨i - 1, by omega⟩
  exact lv_iinc hx hb (k := k) hdg h hk (v := nI j) (pk_m1 j) hv hl kk
/-- a row moved up by ten places, from its end down -/
theorem down_step (s : Row) (j : Nat) (h : 10 ≤ j) (h2 : j < 60) : upd (va_cpy s s (57 + (j + 1)) (67 + (j + 1)) (60 - (j + 1))) (67 + j) (va_cpy s s (57 + (j + 1)) (67 + (j + 1)) (60 - (j + 1)) (67 + j - 10)) = va_cpy s s (57 + j) (67 + j) (60 - j) := by
  funext k
  simp only [upd, va_cpy]
  by_cases e : k = 67 + j
  · subst e
    rw [if_pos rfl, if_neg (by omega), if_pos (by omega)]
    exact congrArg s (by omega)
  · rw [if_neg e]
    by_cases e2 : 67 + (j + 1) ≤ k ∧ k < 67 + (j + 1) + (60 - (j + 1))
    · rw [if_pos e2, if_pos (by omega)]
      exact congrArg s (by omega)
    · rw [if_neg e2, if_neg (by omega)]
end
section
noncomputable def sp_X7_in (a0 a1 a2 : Int32) : Int32 := (if a0 < a1 then 0 else (if a2 < a0 then 0 else 1))
theorem bo_X7_in (a0 a1 a2 : Int32) : sp_X7_in a0 a1 a2 = 0 ∨ sp_X7_in a0 a1 a2 = 1 := by
  unfold sp_X7_in
  (repeat' split) <;> first | exact Or.inl rfl | exact Or.inr rfl
set_option maxRecDepth 100000 in
set_option maxHeartbeats 4000000 in
theorem c_X7_in (l : Launch) (D : va_G) (sz : Nat) (a0 a1 a2 : Int32) : MI l yX7_in cX7_in 3 (some .boolean) 0 0 D sz [.int a0, .int a1, .int a2] [] (sp_X7_in a0 a1 a2) ([]) := by
  refine r_enterI (by decide) (Nat.le_of_ble_eq_true rfl) ?_
  intro p e st m args below meth c ls A X hret hk hw hl
  have X : CX D p m c cX7_in 3 st args RX7 A := X
  have hx := X.1.1
  have hb := X.1.2.1
  have hown := X.1.2.2.2.1
  have hts := X.1.2.2.2.2
  have hl : lv_has ls 3 [(0, .int a0), (1, .int a1), (2, .int a2)] := hl
  refine lv_iload_n hx hb dX7_in_0 rfl (lv_at hl 0 rfl) ?_
  refine lv_iload_n hx hb dX7_in_1 rfl (lv_at hl 1 rfl) ?_
  refine lv_icmp_lt (tgt := 14) hx hb dX7_in_2 (by decide) (fun c1 => ?_) (fun c1 => ?_)
  · skip
    refine lv_iconst (v := 0) hx hb dX7_in_14 (by decide) ?_
    exact r_ret X hw hk hret rfl (by unfold sp_X7_in; rw [if_pos c1]) rfl dX7_in_15
  · skip
    refine lv_iload_n hx hb dX7_in_5 rfl (lv_at hl 0 rfl) ?_
    refine lv_iload_n hx hb dX7_in_6 rfl (lv_at hl 2 rfl) ?_
    refine lv_icmp_gt (tgt := 14) hx hb dX7_in_7 (by decide) (fun c2 => ?_) (fun c2 => ?_)
    · skip
      refine lv_iconst (v := 0) hx hb dX7_in_14 (by decide) ?_
      exact r_ret X hw hk hret rfl (by unfold sp_X7_in; rw [if_neg c1]; rw [if_pos c2]) rfl dX7_in_15
    · skip
      refine lv_iconst (v := 1) hx hb dX7_in_10 (by decide) ?_
      refine lv_goto (tgt := 15) hx hb dX7_in_11 (by decide) ?_
      exact r_ret X hw hk hret rfl (by unfold sp_X7_in; rw [if_neg c1]; rw [if_neg c2]) rfl dX7_in_15

noncomputable def sp_X7_first (a0 : Int32) : Int32 := (if a0 = 3 then 1 else (if a0 = 4 then 1 else (if a0 = 5 then 1 else 0)))
set_option maxRecDepth 100000 in
set_option maxHeartbeats 4000000 in
theorem c_X7_first (l : Launch) (D : va_G) (sz : Nat) (a0 : Int32) : MI l yX7_first cX7_first 1 (some .int) 0 0 D sz [.int a0] [] (sp_X7_first a0) ([]) := by
  refine r_enterI (by decide) (Nat.le_of_ble_eq_true rfl) ?_
  intro p e st m args below meth c ls A X hret hk hw hl
  have X : CX D p m c cX7_first 1 st args RX7 A := X
  have hx := X.1.1
  have hb := X.1.2.1
  have hown := X.1.2.2.2.1
  have hts := X.1.2.2.2.2
  have hl : lv_has ls 1 [(0, .int a0)] := hl
  refine lv_iload_n hx hb dX7_first_0 rfl (lv_at hl 0 rfl) ?_
  refine lv_iconst (v := 3) hx hb dX7_first_1 (by decide) ?_
  refine lv_icmp_eq (tgt := 15) hx hb dX7_first_2 (by decide) (fun c1 => ?_) (fun c1 => ?_)
  · skip
    refine lv_iconst (v := 1) hx hb dX7_first_15 (by decide) ?_
    refine lv_goto (tgt := 20) hx hb dX7_first_16 (by decide) ?_
    exact r_ret X hw hk hret rfl (by unfold sp_X7_first; rw [if_pos c1]) rfl dX7_first_20
  · skip
    refine lv_iload_n hx hb dX7_first_5 rfl (lv_at hl 0 rfl) ?_
    refine lv_iconst (v := 4) hx hb dX7_first_6 (by decide) ?_
    refine lv_icmp_eq (tgt := 15) hx hb dX7_first_7 (by decide) (fun c2 => ?_) (fun c2 => ?_)
    · skip
      refine lv_iconst (v := 1) hx hb dX7_first_15 (by decide) ?_
      refine lv_goto (tgt := 20) hx hb dX7_first_16 (by decide) ?_
      exact r_ret X hw hk hret rfl (by unfold sp_X7_first; rw [if_neg c1]; rw [if_pos c2]) rfl dX7_first_20
    · skip
      refine lv_iload_n hx hb dX7_first_10 rfl (lv_at hl 0 rfl) ?_
      refine lv_iconst (v := 5) hx hb dX7_first_11 (by decide) ?_
      refine lv_icmp_ne (tgt := 19) hx hb dX7_first_12 (by decide) (fun c3 => ?_) (fun c3 => ?_)
      · skip
        refine lv_iconst (v := 0) hx hb dX7_first_19 (by decide) ?_
        exact r_ret X hw hk hret rfl (by unfold sp_X7_first; rw [if_neg c1]; rw [if_neg c2]; rw [if_neg c3]) rfl dX7_first_20
      · skip
        refine lv_iconst (v := 1) hx hb dX7_first_15 (by decide) ?_
        refine lv_goto (tgt := 20) hx hb dX7_first_16 (by decide) ?_
        exact r_ret X hw hk hret rfl (by unfold sp_X7_first; rw [if_neg c1]; rw [if_neg c2]; rw [if_pos c3]) rfl dX7_first_20

noncomputable def sp_X7_lengthOf (a0 a1 : Int32) : Int32 := (if a0 = 2 then (if a1 = 0 then 28 else 29) else (if a0 = 4 then 30 else (if a0 = 6 then 30 else (if a0 = 9 then 30 else (if a0 = 11 then 30 else 31)))))
set_option maxRecDepth 100000 in
set_option maxHeartbeats 4000000 in
theorem c_X7_lengthOf (l : Launch) (D : va_G) (sz : Nat) (a0 a1 : Int32) : MI l yX7_lengthOf cX7_lengthOf 2 (some .int) 0 0 D sz [.int a0, .int a1] [] (sp_X7_lengthOf a0 a1) ([]) := by
  refine r_enterI (by decide) (Nat.le_of_ble_eq_true rfl) ?_
  intro p e st m args below meth c ls A X hret hk hw hl
  have X : CX D p m c cX7_lengthOf 2 st args RX7 A := X
  have hx := X.1.1
  have hb := X.1.2.1
  have hown := X.1.2.2.2.1
  have hts := X.1.2.2.2.2
  have hl : lv_has ls 2 [(0, .int a0), (1, .int a1)] := hl
  refine lv_iload_n hx hb dX7_lengthOf_0 rfl (lv_at hl 0 rfl) ?_
  refine lv_iconst (v := 2) hx hb dX7_lengthOf_1 (by decide) ?_
  refine lv_icmp_ne (tgt := 17) hx hb dX7_lengthOf_2 (by decide) (fun c1 => ?_) (fun c1 => ?_)
  · skip
    refine lv_iload_n hx hb dX7_lengthOf_17 rfl (lv_at hl 0 rfl) ?_
    refine lv_iconst (v := 4) hx hb dX7_lengthOf_18 (by decide) ?_
    refine lv_icmp_eq (tgt := 40) hx hb dX7_lengthOf_19 (by decide) (fun c2 => ?_) (fun c2 => ?_)
    · skip
      refine lv_bipush (v := 30) hx hb dX7_lengthOf_40 (by decide) ?_
      refine lv_goto (tgt := 47) hx hb dX7_lengthOf_42 (by decide) ?_
      exact r_ret X hw hk hret rfl (by unfold sp_X7_lengthOf; rw [if_neg c1]; rw [if_pos c2]) rfl dX7_lengthOf_47
    · skip
      refine lv_iload_n hx hb dX7_lengthOf_22 rfl (lv_at hl 0 rfl) ?_
      refine lv_bipush (v := 6) hx hb dX7_lengthOf_23 (by decide) ?_
      refine lv_icmp_eq (tgt := 40) hx hb dX7_lengthOf_25 (by decide) (fun c3 => ?_) (fun c3 => ?_)
      · skip
        refine lv_bipush (v := 30) hx hb dX7_lengthOf_40 (by decide) ?_
        refine lv_goto (tgt := 47) hx hb dX7_lengthOf_42 (by decide) ?_
        exact r_ret X hw hk hret rfl (by unfold sp_X7_lengthOf; rw [if_neg c1]; rw [if_neg c2]; rw [if_pos c3]) rfl dX7_lengthOf_47
      · skip
        refine lv_iload_n hx hb dX7_lengthOf_28 rfl (lv_at hl 0 rfl) ?_
        refine lv_bipush (v := 9) hx hb dX7_lengthOf_29 (by decide) ?_
        refine lv_icmp_eq (tgt := 40) hx hb dX7_lengthOf_31 (by decide) (fun c4 => ?_) (fun c4 => ?_)
        · skip
          refine lv_bipush (v := 30) hx hb dX7_lengthOf_40 (by decide) ?_
          refine lv_goto (tgt := 47) hx hb dX7_lengthOf_42 (by decide) ?_
          exact r_ret X hw hk hret rfl (by unfold sp_X7_lengthOf; rw [if_neg c1]; rw [if_neg c2]; rw [if_neg c3]; rw [if_pos c4]) rfl dX7_lengthOf_47
        · skip
          refine lv_iload_n hx hb dX7_lengthOf_34 rfl (lv_at hl 0 rfl) ?_
          refine lv_bipush (v := 11) hx hb dX7_lengthOf_35 (by decide) ?_
          refine lv_icmp_ne (tgt := 45) hx hb dX7_lengthOf_37 (by decide) (fun c5 => ?_) (fun c5 => ?_)
          · skip
            refine lv_bipush (v := 31) hx hb dX7_lengthOf_45 (by decide) ?_
            exact r_ret X hw hk hret rfl (by unfold sp_X7_lengthOf; rw [if_neg c1]; rw [if_neg c2]; rw [if_neg c3]; rw [if_neg c4]; rw [if_neg c5]) rfl dX7_lengthOf_47
          · skip
            refine lv_bipush (v := 30) hx hb dX7_lengthOf_40 (by decide) ?_
            refine lv_goto (tgt := 47) hx hb dX7_lengthOf_42 (by decide) ?_
            exact r_ret X hw hk hret rfl (by unfold sp_X7_lengthOf; rw [if_neg c1]; rw [if_neg c2]; rw [if_neg c3]; rw [if_neg c4]; rw [if_pos c5]) rfl dX7_lengthOf_47
  · skip
    refine lv_iload_n hx hb dX7_lengthOf_5 rfl (lv_at hl 1 rfl) ?_
    refine lv_if_eq (tgt := 14) hx hb dX7_lengthOf_6 (by decide) (fun c6 => ?_) (fun c6 => ?_)
    · skip
      refine lv_bipush (v := 28) hx hb dX7_lengthOf_14 (by decide) ?_
      exact r_ret X hw hk hret rfl (by unfold sp_X7_lengthOf; rw [if_pos c1]; rw [if_pos c6]) rfl dX7_lengthOf_16
    · skip
      refine lv_bipush (v := 29) hx hb dX7_lengthOf_9 (by decide) ?_
      refine lv_goto (tgt := 16) hx hb dX7_lengthOf_11 (by decide) ?_
      exact r_ret X hw hk hret rfl (by unfold sp_X7_lengthOf; rw [if_pos c1]; rw [if_neg c6]) rfl dX7_lengthOf_16

noncomputable def sp_X7_alarmAt (a0 : Int32) : Int32 := 40 + (9 * a0)
set_option maxRecDepth 100000 in
set_option maxHeartbeats 4000000 in
theorem c_X7_alarmAt (l : Launch) (D : va_G) (sz : Nat) (a0 : Int32) : MI l yX7_alarmAt cX7_alarmAt 1 (some .int) 0 0 D sz [.int a0] [] (sp_X7_alarmAt a0) ([]) := by
  refine r_enterI (by decide) (Nat.le_of_ble_eq_true rfl) ?_
  intro p e st m args below meth c ls A X hret hk hw hl
  have X : CX D p m c cX7_alarmAt 1 st args RX7 A := X
  have hx := X.1.1
  have hb := X.1.2.1
  have hown := X.1.2.2.2.1
  have hts := X.1.2.2.2.2
  have hl : lv_has ls 1 [(0, .int a0)] := hl
  refine lv_bipush (v := 40) hx hb dX7_alarmAt_0 (by decide) ?_
  refine lv_bipush (v := 9) hx hb dX7_alarmAt_2 (by decide) ?_
  refine lv_iload_n hx hb dX7_alarmAt_4 rfl (lv_at hl 0 rfl) ?_
  refine lv_imul hx hb dX7_alarmAt_5 ?_
  refine lv_iadd hx hb dX7_alarmAt_6 ?_
  exact r_ret X hw hk hret rfl (rfl) rfl dX7_alarmAt_7

noncomputable def sp_X7_isRegister (a0 : Int32) : Int32 := sp_X7_in a0 0 6
theorem bo_X7_isRegister (a0 : Int32) : sp_X7_isRegister a0 = 0 ∨ sp_X7_isRegister a0 = 1 := by
  unfold sp_X7_isRegister
  first | exact Or.inl rfl | exact Or.inr rfl | exact bo_X7_in a0 0 6
set_option maxRecDepth 100000 in
set_option maxHeartbeats 4000000 in
theorem c_X7_isRegister (l : Launch) (D : va_G) (sz : Nat) (a0 : Int32) : MI l yX7_isRegister cX7_isRegister 1 (some .boolean) 1 22 D sz [.int a0] [] (sp_X7_isRegister a0) ([]) := by
  refine r_enterI (by decide) (Nat.le_of_ble_eq_true rfl) ?_
  intro p e st m args below meth c ls A X hret hk hw hl
  have X : CX D p m c cX7_isRegister 1 st args RX7 A := X
  have hx := X.1.1
  have hb := X.1.2.1
  have hown := X.1.2.2.2.1
  have hts := X.1.2.2.2.2
  have hl : lv_has ls 1 [(0, .int a0)] := hl
  refine lv_iload_n hx hb dX7_isRegister_0 rfl (lv_at hl 0 rfl) ?_
  refine lv_iconst (v := 0) hx hb dX7_isRegister_1 (by decide) ?_
  refine lv_bipush (v := 6) hx hb dX7_isRegister_2 (by decide) ?_
  refine r_callS X hw (ws' := []) (As := [.int a0, .int 0, .int 6]) (rest := []) lk_X7_45 (c_X7_in l D _ a0 0 6) Foc.nil rfl hl.1 (Nat.le_of_ble_eq_true rfl) ⟨Nat.le_of_ble_eq_true rfl, Nat.le_of_ble_eq_true rfl⟩ rfl dX7_isRegister_4 ⟨Nat.le_refl _, Nat.le_refl _⟩ (fun H locs hw => ?_)
  exact r_ret X hw hk hret (nar_b (bo_X7_in a0 0 6)) (rfl) rfl dX7_isRegister_7

noncomputable def sp_X7_isAlarm (a0 : Int32) : Int32 := sp_X7_in a0 0 2
theorem bo_X7_isAlarm (a0 : Int32) : sp_X7_isAlarm a0 = 0 ∨ sp_X7_isAlarm a0 = 1 := by
  unfold sp_X7_isAlarm
  first | exact Or.inl rfl | exact Or.inr rfl | exact bo_X7_in a0 0 2
set_option maxRecDepth 100000 in
set_option maxHeartbeats 4000000 in
theorem c_X7_isAlarm (l : Launch) (D : va_G) (sz : Nat) (a0 : Int32) : MI l yX7_isAlarm cX7_isAlarm 1 (some .boolean) 1 22 D sz [.int a0] [] (sp_X7_isAlarm a0) ([]) := by
  refine r_enterI (by decide) (Nat.le_of_ble_eq_true rfl) ?_
  intro p e st m args below meth c ls A X hret hk hw hl
  have X : CX D p m c cX7_isAlarm 1 st args RX7 A := X
  have hx := X.1.1
  have hb := X.1.2.1
  have hown := X.1.2.2.2.1
  have hts := X.1.2.2.2.2
  have hl : lv_has ls 1 [(0, .int a0)] := hl
  refine lv_iload_n hx hb dX7_isAlarm_0 rfl (lv_at hl 0 rfl) ?_
  refine lv_iconst (v := 0) hx hb dX7_isAlarm_1 (by decide) ?_
  refine lv_iconst (v := 2) hx hb dX7_isAlarm_2 (by decide) ?_
  refine r_callS X hw (ws' := []) (As := [.int a0, .int 0, .int 2]) (rest := []) lk_X7_45 (c_X7_in l D _ a0 0 2) Foc.nil rfl hl.1 (Nat.le_of_ble_eq_true rfl) ⟨Nat.le_of_ble_eq_true rfl, Nat.le_of_ble_eq_true rfl⟩ rfl dX7_isAlarm_3 ⟨Nat.le_refl _, Nat.le_refl _⟩ (fun H locs hw => ?_)
  exact r_ret X hw hk hret (nar_b (bo_X7_in a0 0 2)) (rfl) rfl dX7_isAlarm_6

noncomputable def sp_X7_number (s : Row) (r : Nat) : Int32 := (10 * ((s (0 + r)) / 16)) + ((s (0 + r)) - (s (0 + r)) / 16 * 16)
set_option maxRecDepth 100000 in
set_option maxHeartbeats 4000000 in
theorem c_X7_number (l : Launch) (D : va_G) (sz : Nat) (L : Nat → Nat) (s : Row) (S2 : MT) (r : Nat) (hr : r < 7) : MI l yX7_number cX7_number 3 (some .int) 0 0 D sz [.ref (L 0), .int (nI r)] (mW D L (s, S2)) (sp_X7_number s r) (mW D L (s, S2)) := by
  refine r_enterI (by decide) (Nat.le_of_ble_eq_true rfl) ?_
  intro p e st m args below meth c ls A X hret hk hw hl
  have X : CX D p m c cX7_number 3 st args RX7 A := X
  have hx := X.1.1
  have hb := X.1.2.1
  have hown := X.1.2.2.2.1
  have hts := X.1.2.2.2.2
  have hl : lv_has ls 3 [(0, .ref (L 0)), (1, .int (nI r))] := hl
  refine lv_aload_n hx hb dX7_number_0 rfl (lv_at hl 0 rfl) ?_
  refine r_get X hw (v := .ref (L 1)) fl_X7_7 (m_at 0 rfl) rfl dX7_number_1 ?_
  refine lv_iconst (v := 0) hx hb dX7_number_4 (by decide) ?_
  refine lv_iload_n hx hb dX7_number_5 rfl (lv_at hl 1 rfl) ?_
  refine r_addN hx hb 0 r rfl rfl dX7_number_6 ?_
  refine r_iald X hw (f := s) (0 + r) (m_at 1 rfl) rfl (by omega) (by decide) dX7_number_7 ?_
  refine lv_istore_n (lv' := [(2, .int (s (0 + r))), (0, .ref (L 0)), (1, .int (nI r))]) hx hb dX7_number_8 rfl hl (by decide) rfl (fun ls hl => ?_)
  refine lv_bipush (v := 10) hx hb dX7_number_9 (by decide) ?_
  refine lv_iload_n hx hb dX7_number_11 rfl (lv_at hl 0 rfl) ?_
  refine lv_bipush (v := 16) hx hb dX7_number_12 (by decide) ?_
  refine lv_idiv hx hb dX7_number_14 (by decide) ?_
  refine lv_imul hx hb dX7_number_15 ?_
  refine lv_iload_n hx hb dX7_number_16 rfl (lv_at hl 0 rfl) ?_
  refine lv_bipush (v := 16) hx hb dX7_number_17 (by decide) ?_
  refine lv_irem hx hb dX7_number_19 (by decide) ?_
  refine lv_iadd hx hb dX7_number_20 ?_
  exact r_ret X hw hk hret rfl (rfl) rfl dX7_number_21

noncomputable def sp_X7_isWithin (s : Row) (r : Nat) (a b : Int32) : Int32 := (if 10 ≤ ((s (0 + r)) / 16) then 0 else (if 10 ≤ ((s (0 + r)) - (s (0 + r)) / 16 * 16) then 0 else (if (sp_X7_in (sp_X7_number s r) a b) = 0 then 0 else 1)))
theorem bo_X7_isWithin (s : Row) (r : Nat) (a b : Int32) : sp_X7_isWithin s r a b = 0 ∨ sp_X7_isWithin s r a b = 1 := by
  unfold sp_X7_isWithin
  (repeat' split) <;> first | exact Or.inl rfl | exact Or.inr rfl
set_option maxRecDepth 100000 in
set_option maxHeartbeats 4000000 in
theorem c_X7_isWithin (l : Launch) (D : va_G) (sz : Nat) (L : Nat → Nat) (s : Row) (S2 : MT) (r : Nat) (a b : Int32) (hr : r < 7) : MI l yX7_isWithin cX7_isWithin 5 (some .boolean) 1 22 D sz [.ref (L 0), .int (nI r), .int a, .int b] (mW D L (s, S2)) (sp_X7_isWithin s r a b) (mW D L (s, S2)) := by
  refine r_enterI (by decide) (Nat.le_of_ble_eq_true rfl) ?_
  intro p e st m args below meth c ls A X hret hk hw hl
  have X : CX D p m c cX7_isWithin 5 st args RX7 A := X
  have hx := X.1.1
  have hb := X.1.2.1
  have hown := X.1.2.2.2.1
  have hts := X.1.2.2.2.2
  have hl : lv_has ls 5 [(0, .ref (L 0)), (1, .int (nI r)), (2, .int a), (3, .int b)] := hl
  refine lv_aload_n hx hb dX7_isWithin_0 rfl (lv_at hl 0 rfl) ?_
  refine r_get X hw (v := .ref (L 1)) fl_X7_7 (m_at 0 rfl) rfl dX7_isWithin_1 ?_
  refine lv_iconst (v := 0) hx hb dX7_isWithin_4 (by decide) ?_
  refine lv_iload_n hx hb dX7_isWithin_5 rfl (lv_at hl 1 rfl) ?_
  refine r_addN hx hb 0 r rfl rfl dX7_isWithin_6 ?_
  refine r_iald X hw (f := s) (0 + r) (m_at 1 rfl) rfl (by omega) (by decide) dX7_isWithin_7 ?_
  refine lv_istore (lv' := [(4, .int (s (0 + r))), (0, .ref (L 0)), (1, .int (nI r)), (2, .int a), (3, .int b)]) hx hb dX7_isWithin_8 hl (by decide) rfl (fun ls hl => ?_)
  refine lv_iload hx hb dX7_isWithin_10 (lv_at hl 0 rfl) ?_
  refine lv_bipush (v := 16) hx hb dX7_isWithin_12 (by decide) ?_
  refine lv_idiv hx hb dX7_isWithin_14 (by decide) ?_
  refine lv_bipush (v := 10) hx hb dX7_isWithin_15 (by decide) ?_
  refine lv_icmp_ge (tgt := 47) hx hb dX7_isWithin_17 (by decide) (fun c1 => ?_) (fun c1 => ?_)
  · skip
    refine lv_iconst (v := 0) hx hb dX7_isWithin_47 (by decide) ?_
    exact r_ret X hw hk hret rfl (by unfold sp_X7_isWithin; rw [if_pos c1]) rfl dX7_isWithin_48
  · skip
    refine lv_iload hx hb dX7_isWithin_20 (lv_at hl 0 rfl) ?_
    refine lv_bipush (v := 16) hx hb dX7_isWithin_22 (by decide) ?_
    refine lv_irem hx hb dX7_isWithin_24 (by decide) ?_
    refine lv_bipush (v := 10) hx hb dX7_isWithin_25 (by decide) ?_
    refine lv_icmp_ge (tgt := 47) hx hb dX7_isWithin_27 (by decide) (fun c2 => ?_) (fun c2 => ?_)
    · skip
      refine lv_iconst (v := 0) hx hb dX7_isWithin_47 (by decide) ?_
      exact r_ret X hw hk hret rfl (by unfold sp_X7_isWithin; rw [if_neg c1]; rw [if_pos c2]) rfl dX7_isWithin_48
    · skip
      refine lv_aload_n hx hb dX7_isWithin_30 rfl (lv_at hl 1 rfl) ?_
      refine lv_iload_n hx hb dX7_isWithin_31 rfl (lv_at hl 2 rfl) ?_
      refine r_callV X hw (ws' := mW D L (s, S2)) (As := [.int (nI r)]) (rest := []) lk_X7_49 (c_X7_number l D _ L s S2 r (by omega)) Foc.all (m_at 0 rfl) rfl hl.1 (Nat.le_of_ble_eq_true rfl) ⟨Nat.le_of_ble_eq_true rfl, Nat.le_of_ble_eq_true rfl⟩ rfl dX7_isWithin_32 ⟨Nat.le_refl _, Nat.le_refl _⟩ (fun H locs hw => ?_)
      refine lv_iload_n hx hb dX7_isWithin_35 rfl (lv_at hl 3 rfl) ?_
      refine lv_iload_n hx hb dX7_isWithin_36 rfl (lv_at hl 4 rfl) ?_
      refine r_callS X hw (ws' := mW D L (s, S2)) (As := [.int (sp_X7_number s r), .int a, .int b]) (rest := []) lk_X7_45 (c_X7_in l D _ (sp_X7_number s r) a b) Foc.nil rfl hl.1 (Nat.le_of_ble_eq_true rfl) ⟨Nat.le_of_ble_eq_true rfl, Nat.le_of_ble_eq_true rfl⟩ rfl dX7_isWithin_37 ⟨Nat.le_refl _, Nat.le_refl _⟩ (fun H locs hw => ?_)
      refine lv_if_eq (tgt := 47) hx hb dX7_isWithin_40 (by decide) (fun c3 => ?_) (fun c3 => ?_)
      · skip
        refine lv_iconst (v := 0) hx hb dX7_isWithin_47 (by decide) ?_
        exact r_ret X hw hk hret rfl (by unfold sp_X7_isWithin; rw [if_neg c1]; rw [if_neg c2]; rw [if_pos c3]) rfl dX7_isWithin_48
      · skip
        refine lv_iconst (v := 1) hx hb dX7_isWithin_43 (by decide) ?_
        refine lv_goto (tgt := 48) hx hb dX7_isWithin_44 (by decide) ?_
        exact r_ret X hw hk hret rfl (by unfold sp_X7_isWithin; rw [if_neg c1]; rw [if_neg c2]; rw [if_neg c3]) rfl dX7_isWithin_48

noncomputable def sp_X7_isLeap (s : Row) : Int32 := (if (sp_X7_isWithin s 6 0 99) = 0 then 0 else (if ((sp_X7_number s 6) - (sp_X7_number s 6) / 4 * 4) = 0 then 1 else 0))
theorem bo_X7_isLeap (s : Row) : sp_X7_isLeap s = 0 ∨ sp_X7_isLeap s = 1 := by
  unfold sp_X7_isLeap
  (repeat' split) <;> first | exact Or.inl rfl | exact Or.inr rfl
set_option maxRecDepth 100000 in
set_option maxHeartbeats 4000000 in
theorem c_X7_isLeap (l : Launch) (D : va_G) (sz : Nat) (L : Nat → Nat) (s : Row) (S2 : MT) : MI l yX7_isLeap cX7_isLeap 1 (some .boolean) 2 46 D sz [.ref (L 0)] (mW D L (s, S2)) (sp_X7_isLeap s) (mW D L (s, S2)) := by
  refine r_enterI (by decide) (Nat.le_of_ble_eq_true rfl) ?_
  intro p e st m args below meth c ls A X hret hk hw hl
  have X : CX D p m c cX7_isLeap 1 st args RX7 A := X
  have hx := X.1.1
  have hb := X.1.2.1
  have hown := X.1.2.2.2.1
  have hts := X.1.2.2.2.2
  have hl : lv_has ls 1 [(0, .ref (L 0))] := hl
  refine lv_aload_n hx hb dX7_isLeap_0 rfl (lv_at hl 0 rfl) ?_
  refine lv_bipush (v := 6) hx hb dX7_isLeap_1 (by decide) ?_
  refine lv_iconst (v := 0) hx hb dX7_isLeap_3 (by decide) ?_
  refine lv_bipush (v := 99) hx hb dX7_isLeap_4 (by decide) ?_
  refine r_callV X hw (ws' := mW D L (s, S2)) (As := [.int 6, .int 0, .int 99]) (rest := []) lk_X7_63 (c_X7_isWithin l D _ L s S2 6 0 99 (by omega)) Foc.all (m_at 0 rfl) rfl hl.1 (Nat.le_of_ble_eq_true rfl) ⟨Nat.le_of_ble_eq_true rfl, Nat.le_of_ble_eq_true rfl⟩ rfl dX7_isLeap_6 ⟨Nat.le_refl _, Nat.le_refl _⟩ (fun H locs hw => ?_)
  refine lv_if_eq (tgt := 27) hx hb dX7_isLeap_9 (by decide) (fun c1 => ?_) (fun c1 => ?_)
  · skip
    refine lv_iconst (v := 0) hx hb dX7_isLeap_27 (by decide) ?_
    exact r_ret X hw hk hret rfl (by unfold sp_X7_isLeap; rw [if_pos c1]) rfl dX7_isLeap_28
  · skip
    refine lv_aload_n hx hb dX7_isLeap_12 rfl (lv_at hl 0 rfl) ?_
    refine lv_bipush (v := 6) hx hb dX7_isLeap_13 (by decide) ?_
    refine r_callV X hw (ws' := mW D L (s, S2)) (As := [.int 6]) (rest := []) lk_X7_49 (c_X7_number l D _ L s S2 6 (by omega)) Foc.all (m_at 0 rfl) rfl hl.1 (Nat.le_of_ble_eq_true rfl) ⟨Nat.le_of_ble_eq_true rfl, Nat.le_of_ble_eq_true rfl⟩ rfl dX7_isLeap_15 ⟨Nat.le_refl _, Nat.le_refl _⟩ (fun H locs hw => ?_)
    refine lv_iconst (v := 4) hx hb dX7_isLeap_18 (by decide) ?_
    refine lv_irem hx hb dX7_isLeap_19 (by decide) ?_
    refine lv_if_ne (tgt := 27) hx hb dX7_isLeap_20 (by decide) (fun c2 => ?_) (fun c2 => ?_)
    · skip
      refine lv_iconst (v := 0) hx hb dX7_isLeap_27 (by decide) ?_
      exact r_ret X hw hk hret rfl (by unfold sp_X7_isLeap; rw [if_neg c1]; rw [if_neg c2]) rfl dX7_isLeap_28
    · skip
      refine lv_iconst (v := 1) hx hb dX7_isLeap_23 (by decide) ?_
      refine lv_goto (tgt := 28) hx hb dX7_isLeap_24 (by decide) ?_
      exact r_ret X hw hk hret rfl (by unfold sp_X7_isLeap; rw [if_neg c1]; rw [if_pos c2]) rfl dX7_isLeap_28

noncomputable def sp_X7_monthLength (s : Row) : Int32 := (if (sp_X7_isWithin s 5 1 12) = 0 then 31 else sp_X7_lengthOf (sp_X7_number s 5) (sp_X7_isLeap s))
set_option maxRecDepth 100000 in
set_option maxHeartbeats 4000000 in
theorem c_X7_monthLength (l : Launch) (D : va_G) (sz : Nat) (L : Nat → Nat) (s : Row) (S2 : MT) : MI l yX7_monthLength cX7_monthLength 1 (some .int) 3 66 D sz [.ref (L 0)] (mW D L (s, S2)) (sp_X7_monthLength s) (mW D L (s, S2)) := by
  refine r_enterI (by decide) (Nat.le_of_ble_eq_true rfl) ?_
  intro p e st m args below meth c ls A X hret hk hw hl
  have X : CX D p m c cX7_monthLength 1 st args RX7 A := X
  have hx := X.1.1
  have hb := X.1.2.1
  have hown := X.1.2.2.2.1
  have hts := X.1.2.2.2.2
  have hl : lv_has ls 1 [(0, .ref (L 0))] := hl
  refine lv_aload_n hx hb dX7_monthLength_0 rfl (lv_at hl 0 rfl) ?_
  refine lv_iconst (v := 5) hx hb dX7_monthLength_1 (by decide) ?_
  refine lv_iconst (v := 1) hx hb dX7_monthLength_2 (by decide) ?_
  refine lv_bipush (v := 12) hx hb dX7_monthLength_3 (by decide) ?_
  refine r_callV X hw (ws' := mW D L (s, S2)) (As := [.int 5, .int 1, .int 12]) (rest := []) lk_X7_63 (c_X7_isWithin l D _ L s S2 5 1 12 (by omega)) Foc.all (m_at 0 rfl) rfl hl.1 (Nat.le_of_ble_eq_true rfl) ⟨Nat.le_of_ble_eq_true rfl, Nat.le_of_ble_eq_true rfl⟩ rfl dX7_monthLength_5 ⟨Nat.le_refl _, Nat.le_refl _⟩ (fun H locs hw => ?_)
  refine lv_if_eq (tgt := 26) hx hb dX7_monthLength_8 (by decide) (fun c1 => ?_) (fun c1 => ?_)
  · skip
    refine lv_bipush (v := 31) hx hb dX7_monthLength_26 (by decide) ?_
    exact r_ret X hw hk hret rfl (by unfold sp_X7_monthLength; rw [if_pos c1]) rfl dX7_monthLength_28
  · skip
    refine lv_aload_n hx hb dX7_monthLength_11 rfl (lv_at hl 0 rfl) ?_
    refine lv_iconst (v := 5) hx hb dX7_monthLength_12 (by decide) ?_
    refine r_callV X hw (ws' := mW D L (s, S2)) (As := [.int 5]) (rest := []) lk_X7_49 (c_X7_number l D _ L s S2 5 (by omega)) Foc.all (m_at 0 rfl) rfl hl.1 (Nat.le_of_ble_eq_true rfl) ⟨Nat.le_of_ble_eq_true rfl, Nat.le_of_ble_eq_true rfl⟩ rfl dX7_monthLength_13 ⟨Nat.le_refl _, Nat.le_refl _⟩ (fun H locs hw => ?_)
    refine lv_aload_n hx hb dX7_monthLength_16 rfl (lv_at hl 0 rfl) ?_
    refine r_callV X hw (ws' := mW D L (s, S2)) (As := []) (rest := [.int (sp_X7_number s 5)]) lk_X7_66 (c_X7_isLeap l D _ L s S2) Foc.all (m_at 0 rfl) rfl hl.1 (Nat.le_of_ble_eq_true rfl) ⟨Nat.le_of_ble_eq_true rfl, Nat.le_of_ble_eq_true rfl⟩ rfl dX7_monthLength_17 ⟨Nat.le_refl _, Nat.le_refl _⟩ (fun H locs hw => ?_)
    refine r_callS X hw (ws' := mW D L (s, S2)) (As := [.int (sp_X7_number s 5), .int (sp_X7_isLeap s)]) (rest := []) lk_X7_70 (c_X7_lengthOf l D _ (sp_X7_number s 5) (sp_X7_isLeap s)) Foc.nil rfl hl.1 (Nat.le_of_ble_eq_true rfl) ⟨Nat.le_of_ble_eq_true rfl, Nat.le_of_ble_eq_true rfl⟩ rfl dX7_monthLength_20 ⟨Nat.le_refl _, Nat.le_refl _⟩ (fun H locs hw => ?_)
    refine lv_goto (tgt := 28) hx hb dX7_monthLength_23 (by decide) ?_
    exact r_ret X hw hk hret rfl (by unfold sp_X7_monthLength; rw [if_neg c1]) rfl dX7_monthLength_28

noncomputable def sp_X7_last (s : Row) (r : Nat) : Int32 := (if (nI r) = 0 then 59 else (if (nI r) = 1 then 59 else (if (nI r) = 2 then 23 else (if (nI r) = 3 then 7 else (if (nI r) = 4 then sp_X7_monthLength s else (if (nI r) = 5 then 12 else 99))))))
set_option maxRecDepth 100000 in
set_option maxHeartbeats 4000000 in
theorem c_X7_last (l : Launch) (D : va_G) (sz : Nat) (L : Nat → Nat) (s : Row) (S2 : MT) (r : Nat) (hr : r < 7) : MI l yX7_last cX7_last 2 (some .int) 4 86 D sz [.ref (L 0), .int (nI r)] (mW D L (s, S2)) (sp_X7_last s r) (mW D L (s, S2)) := by
  refine r_enterI (by decide) (Nat.le_of_ble_eq_true rfl) ?_
  intro p e st m args below meth c ls A X hret hk hw hl
  have X : CX D p m c cX7_last 2 st args RX7 A := X
  have hx := X.1.1
  have hb := X.1.2.1
  have hown := X.1.2.2.2.1
  have hts := X.1.2.2.2.2
  have hl : lv_has ls 2 [(0, .ref (L 0)), (1, .int (nI r))] := hl
  refine lv_iload_n hx hb dX7_last_0 rfl (lv_at hl 1 rfl) ?_
  by_cases w1 : (nI r) = 0
  · skip
    refine r_tabIn (tgt := 40) hx hb 0 w1 dX7_last_1 (by decide) (by decide) rfl (by decide) ?_
    refine lv_bipush (v := 59) hx hb dX7_last_40 (by decide) ?_
    exact r_ret X hw hk hret rfl (by unfold sp_X7_last; rw [if_pos w1]) rfl dX7_last_42
  · skip
    by_cases w2 : (nI r) = 1
    · skip
      refine r_tabIn (tgt := 40) hx hb 1 w2 dX7_last_1 (by decide) (by decide) rfl (by decide) ?_
      refine lv_bipush (v := 59) hx hb dX7_last_40 (by decide) ?_
      exact r_ret X hw hk hret rfl (by unfold sp_X7_last; rw [if_neg w1]; rw [if_pos w2]) rfl dX7_last_42
    · skip
      by_cases w3 : (nI r) = 2
      · skip
        refine r_tabIn (tgt := 43) hx hb 2 w3 dX7_last_1 (by decide) (by decide) rfl (by decide) ?_
        refine lv_bipush (v := 23) hx hb dX7_last_43 (by decide) ?_
        exact r_ret X hw hk hret rfl (by unfold sp_X7_last; rw [if_neg w1]; rw [if_neg w2]; rw [if_pos w3]) rfl dX7_last_45
      · skip
        by_cases w4 : (nI r) = 3
        · skip
          refine r_tabIn (tgt := 46) hx hb 3 w4 dX7_last_1 (by decide) (by decide) rfl (by decide) ?_
          refine lv_bipush (v := 7) hx hb dX7_last_46 (by decide) ?_
          exact r_ret X hw hk hret rfl (by unfold sp_X7_last; rw [if_neg w1]; rw [if_neg w2]; rw [if_neg w3]; rw [if_pos w4]) rfl dX7_last_48
        · skip
          by_cases w5 : (nI r) = 4
          · skip
            refine r_tabIn (tgt := 49) hx hb 4 w5 dX7_last_1 (by decide) (by decide) rfl (by decide) ?_
            refine lv_aload_n hx hb dX7_last_49 rfl (lv_at hl 0 rfl) ?_
            refine r_callV X hw (ws' := mW D L (s, S2)) (As := []) (rest := []) lk_X7_53 (c_X7_monthLength l D _ L s S2) Foc.all (m_at 0 rfl) rfl hl.1 (Nat.le_of_ble_eq_true rfl) ⟨Nat.le_of_ble_eq_true rfl, Nat.le_of_ble_eq_true rfl⟩ rfl dX7_last_50 ⟨Nat.le_refl _, Nat.le_refl _⟩ (fun H locs hw => ?_)
            exact r_ret X hw hk hret rfl (by unfold sp_X7_last; rw [if_neg w1]; rw [if_neg w2]; rw [if_neg w3]; rw [if_neg w4]; rw [if_pos w5]) rfl dX7_last_53
          · skip
            by_cases w6 : (nI r) = 5
            · skip
              refine r_tabIn (tgt := 54) hx hb 5 w6 dX7_last_1 (by decide) (by decide) rfl (by decide) ?_
              refine lv_bipush (v := 12) hx hb dX7_last_54 (by decide) ?_
              exact r_ret X hw hk hret rfl (by unfold sp_X7_last; rw [if_neg w1]; rw [if_neg w2]; rw [if_neg w3]; rw [if_neg w4]; rw [if_neg w5]; rw [if_pos w6]) rfl dX7_last_56
            · skip
              refine lv_tableOut (tgt := 57) hx hb dX7_last_1 (by have g0 := i_ne w1; have g1 := i_ne w2; have g2 := i_ne w3; have g3 := i_ne w4; have g4 := i_ne w5; have g5 := i_ne w6; rw [show (0 : Int32).toInt = 0 from rfl] at g0; rw [show (1 : Int32).toInt = 1 from rfl] at g1; rw [show (2 : Int32).toInt = 2 from rfl] at g2; rw [show (3 : Int32).toInt = 3 from rfl] at g3; rw [show (4 : Int32).toInt = 4 from rfl] at g4; rw [show (5 : Int32).toInt = 5 from rfl] at g5; omega) (by decide) ?_
              refine lv_bipush (v := 99) hx hb dX7_last_57 (by decide) ?_
              exact r_ret X hw hk hret rfl (by unfold sp_X7_last; rw [if_neg w1]; rw [if_neg w2]; rw [if_neg w3]; rw [if_neg w4]; rw [if_neg w5]; rw [if_neg w6]) rfl dX7_last_59

noncomputable def sp_X7_wrong (s : Row) (r : Nat) : Int32 := (if 9 < ((s (0 + r)) / 16) then 1 else (if ((s (0 + r)) - (s (0 + r)) / 16 * 16) ≤ 9 then (if (sp_X7_first (nI r)) ≤ (sp_X7_number s r) then (if (sp_X7_number s r) ≤ (sp_X7_last s r) then 0 else 3) else 2) else 1))
set_option maxRecDepth 100000 in
set_option maxHeartbeats 4000000 in
theorem c_X7_wrong (l : Launch) (D : va_G) (sz : Nat) (L : Nat → Nat) (s : Row) (S2 : MT) (r : Nat) (hr : r < 7) : MI l yX7_wrong cX7_wrong 3 (some .int) 5 107 D sz [.ref (L 0), .int (nI r)] (mW D L (s, S2)) (sp_X7_wrong s r) (mW D L (s, S2)) := by
  refine r_enterI (by decide) (Nat.le_of_ble_eq_true rfl) ?_
  intro p e st m args below meth c ls A X hret hk hw hl
  have X : CX D p m c cX7_wrong 3 st args RX7 A := X
  have hx := X.1.1
  have hb := X.1.2.1
  have hown := X.1.2.2.2.1
  have hts := X.1.2.2.2.2
  have hl : lv_has ls 3 [(0, .ref (L 0)), (1, .int (nI r))] := hl
  refine lv_aload_n hx hb dX7_wrong_0 rfl (lv_at hl 0 rfl) ?_
  refine r_get X hw (v := .ref (L 1)) fl_X7_7 (m_at 0 rfl) rfl dX7_wrong_1 ?_
  refine lv_iconst (v := 0) hx hb dX7_wrong_4 (by decide) ?_
  refine lv_iload_n hx hb dX7_wrong_5 rfl (lv_at hl 1 rfl) ?_
  refine r_addN hx hb 0 r rfl rfl dX7_wrong_6 ?_
  refine r_iald X hw (f := s) (0 + r) (m_at 1 rfl) rfl (by omega) (by decide) dX7_wrong_7 ?_
  refine lv_istore_n (lv' := [(2, .int (s (0 + r))), (0, .ref (L 0)), (1, .int (nI r))]) hx hb dX7_wrong_8 rfl hl (by decide) rfl (fun ls hl => ?_)
  refine lv_iload_n hx hb dX7_wrong_9 rfl (lv_at hl 0 rfl) ?_
  refine lv_bipush (v := 16) hx hb dX7_wrong_10 (by decide) ?_
  refine lv_idiv hx hb dX7_wrong_12 (by decide) ?_
  refine lv_bipush (v := 9) hx hb dX7_wrong_13 (by decide) ?_
  refine lv_icmp_gt (tgt := 27) hx hb dX7_wrong_15 (by decide) (fun c1 => ?_) (fun c1 => ?_)
  · skip
    refine lv_iconst (v := 1) hx hb dX7_wrong_27 (by decide) ?_
    exact r_ret X hw hk hret rfl (by unfold sp_X7_wrong; rw [if_pos c1]) rfl dX7_wrong_28
  · skip
    refine lv_iload_n hx hb dX7_wrong_18 rfl (lv_at hl 0 rfl) ?_
    refine lv_bipush (v := 16) hx hb dX7_wrong_19 (by decide) ?_
    refine lv_irem hx hb dX7_wrong_21 (by decide) ?_
    refine lv_bipush (v := 9) hx hb dX7_wrong_22 (by decide) ?_
    refine lv_icmp_le (tgt := 29) hx hb dX7_wrong_24 (by decide) (fun c2 => ?_) (fun c2 => ?_)
    · skip
      refine lv_aload_n hx hb dX7_wrong_29 rfl (lv_at hl 1 rfl) ?_
      refine lv_iload_n hx hb dX7_wrong_30 rfl (lv_at hl 2 rfl) ?_
      refine r_callV X hw (ws' := mW D L (s, S2)) (As := [.int (nI r)]) (rest := []) lk_X7_49 (c_X7_number l D _ L s S2 r (by omega)) Foc.all (m_at 0 rfl) rfl hl.1 (Nat.le_of_ble_eq_true rfl) ⟨Nat.le_of_ble_eq_true rfl, Nat.le_of_ble_eq_true rfl⟩ rfl dX7_wrong_31 ⟨Nat.le_refl _, Nat.le_refl _⟩ (fun H locs hw => ?_)
      refine lv_iload_n hx hb dX7_wrong_34 rfl (lv_at hl 2 rfl) ?_
      refine r_callS X hw (ws' := mW D L (s, S2)) (As := [.int (nI r)]) (rest := [.int (sp_X7_number s r)]) lk_X7_57 (c_X7_first l D _ (nI r)) Foc.nil rfl hl.1 (Nat.le_of_ble_eq_true rfl) ⟨Nat.le_of_ble_eq_true rfl, Nat.le_of_ble_eq_true rfl⟩ rfl dX7_wrong_35 ⟨Nat.le_refl _, Nat.le_refl _⟩ (fun H locs hw => ?_)
      refine lv_icmp_ge (tgt := 45) hx hb dX7_wrong_38 (by decide) (fun c3 => ?_) (fun c3 => ?_)
      · skip
        refine lv_aload_n hx hb dX7_wrong_45 rfl (lv_at hl 1 rfl) ?_
        refine lv_iload_n hx hb dX7_wrong_46 rfl (lv_at hl 2 rfl) ?_
        refine r_callV X hw (ws' := mW D L (s, S2)) (As := [.int (nI r)]) (rest := []) lk_X7_49 (c_X7_number l D _ L s S2 r (by omega)) Foc.all (m_at 0 rfl) rfl hl.1 (Nat.le_of_ble_eq_true rfl) ⟨Nat.le_of_ble_eq_true rfl, Nat.le_of_ble_eq_true rfl⟩ rfl dX7_wrong_47 ⟨Nat.le_refl _, Nat.le_refl _⟩ (fun H locs hw => ?_)
        refine lv_aload_n hx hb dX7_wrong_50 rfl (lv_at hl 1 rfl) ?_
        refine lv_iload_n hx hb dX7_wrong_51 rfl (lv_at hl 2 rfl) ?_
        refine r_callV X hw (ws' := mW D L (s, S2)) (As := [.int (nI r)]) (rest := [.int (sp_X7_number s r)]) lk_X7_60 (c_X7_last l D _ L s S2 r (by omega)) Foc.all (m_at 0 rfl) rfl hl.1 (Nat.le_of_ble_eq_true rfl) ⟨Nat.le_of_ble_eq_true rfl, Nat.le_of_ble_eq_true rfl⟩ rfl dX7_wrong_52 ⟨Nat.le_refl _, Nat.le_refl _⟩ (fun H locs hw => ?_)
        refine lv_icmp_le (tgt := 62) hx hb dX7_wrong_55 (by decide) (fun c4 => ?_) (fun c4 => ?_)
        · skip
          refine lv_iconst (v := 0) hx hb dX7_wrong_62 (by decide) ?_
          exact r_ret X hw hk hret rfl (by unfold sp_X7_wrong; rw [if_neg c1]; rw [if_pos c2]; rw [if_pos c3]; rw [if_pos c4]) rfl dX7_wrong_63
        · skip
          refine lv_iconst (v := 3) hx hb dX7_wrong_58 (by decide) ?_
          refine lv_goto (tgt := 63) hx hb dX7_wrong_59 (by decide) ?_
          exact r_ret X hw hk hret rfl (by unfold sp_X7_wrong; rw [if_neg c1]; rw [if_pos c2]; rw [if_pos c3]; rw [if_neg c4]) rfl dX7_wrong_63
      · skip
        refine lv_iconst (v := 2) hx hb dX7_wrong_41 (by decide) ?_
        refine lv_goto (tgt := 63) hx hb dX7_wrong_42 (by decide) ?_
        exact r_ret X hw hk hret rfl (by unfold sp_X7_wrong; rw [if_neg c1]; rw [if_pos c2]; rw [if_neg c3]) rfl dX7_wrong_63
    · skip
      refine lv_iconst (v := 1) hx hb dX7_wrong_27 (by decide) ?_
      exact r_ret X hw hk hret rfl (by unfold sp_X7_wrong; rw [if_neg c1]; rw [if_neg c2]) rfl dX7_wrong_28

noncomputable def sp_X7_rolls (s : Row) (r : Nat) : Int32 := (if (sp_X7_wrong s r) = 0 then (if (sp_X7_number s r) = (sp_X7_last s r) then 1 else 0) else 0)
theorem bo_X7_rolls (s : Row) (r : Nat) : sp_X7_rolls s r = 0 ∨ sp_X7_rolls s r = 1 := by
  unfold sp_X7_rolls
  (repeat' split) <;> first | exact Or.inl rfl | exact Or.inr rfl
set_option maxRecDepth 100000 in
set_option maxHeartbeats 4000000 in
theorem c_X7_rolls (l : Launch) (D : va_G) (sz : Nat) (L : Nat → Nat) (s : Row) (S2 : MT) (r : Nat) (hr : r < 7) : MI l yX7_rolls cX7_rolls 2 (some .boolean) 6 129 D sz [.ref (L 0), .int (nI r)] (mW D L (s, S2)) (sp_X7_rolls s r) (mW D L (s, S2)) := by
  refine r_enterI (by decide) (Nat.le_of_ble_eq_true rfl) ?_
  intro p e st m args below meth c ls A X hret hk hw hl
  have X : CX D p m c cX7_rolls 2 st args RX7 A := X
  have hx := X.1.1
  have hb := X.1.2.1
  have hown := X.1.2.2.2.1
  have hts := X.1.2.2.2.2
  have hl : lv_has ls 2 [(0, .ref (L 0)), (1, .int (nI r))] := hl
  refine lv_aload_n hx hb dX7_rolls_0 rfl (lv_at hl 0 rfl) ?_
  refine lv_iload_n hx hb dX7_rolls_1 rfl (lv_at hl 1 rfl) ?_
  refine r_callV X hw (ws' := mW D L (s, S2)) (As := [.int (nI r)]) (rest := []) lk_X7_78 (c_X7_wrong l D _ L s S2 r (by omega)) Foc.all (m_at 0 rfl) rfl hl.1 (Nat.le_of_ble_eq_true rfl) ⟨Nat.le_of_ble_eq_true rfl, Nat.le_of_ble_eq_true rfl⟩ rfl dX7_rolls_2 ⟨Nat.le_refl _, Nat.le_refl _⟩ (fun H locs hw => ?_)
  refine lv_if_ne (tgt := 25) hx hb dX7_rolls_5 (by decide) (fun c1 => ?_) (fun c1 => ?_)
  · skip
    refine lv_iconst (v := 0) hx hb dX7_rolls_25 (by decide) ?_
    exact r_ret X hw hk hret rfl (by unfold sp_X7_rolls; rw [if_neg c1]) rfl dX7_rolls_26
  · skip
    refine lv_aload_n hx hb dX7_rolls_8 rfl (lv_at hl 0 rfl) ?_
    refine lv_iload_n hx hb dX7_rolls_9 rfl (lv_at hl 1 rfl) ?_
    refine r_callV X hw (ws' := mW D L (s, S2)) (As := [.int (nI r)]) (rest := []) lk_X7_49 (c_X7_number l D _ L s S2 r (by omega)) Foc.all (m_at 0 rfl) rfl hl.1 (Nat.le_of_ble_eq_true rfl) ⟨Nat.le_of_ble_eq_true rfl, Nat.le_of_ble_eq_true rfl⟩ rfl dX7_rolls_10 ⟨Nat.le_refl _, Nat.le_refl _⟩ (fun H locs hw => ?_)
    refine lv_aload_n hx hb dX7_rolls_13 rfl (lv_at hl 0 rfl) ?_
    refine lv_iload_n hx hb dX7_rolls_14 rfl (lv_at hl 1 rfl) ?_
    refine r_callV X hw (ws' := mW D L (s, S2)) (As := [.int (nI r)]) (rest := [.int (sp_X7_number s r)]) lk_X7_60 (c_X7_last l D _ L s S2 r (by omega)) Foc.all (m_at 0 rfl) rfl hl.1 (Nat.le_of_ble_eq_true rfl) ⟨Nat.le_of_ble_eq_true rfl, Nat.le_of_ble_eq_true rfl⟩ rfl dX7_rolls_15 ⟨Nat.le_refl _, Nat.le_refl _⟩ (fun H locs hw => ?_)
    refine lv_icmp_ne (tgt := 25) hx hb dX7_rolls_18 (by decide) (fun c2 => ?_) (fun c2 => ?_)
    · skip
      refine lv_iconst (v := 0) hx hb dX7_rolls_25 (by decide) ?_
      exact r_ret X hw hk hret rfl (by unfold sp_X7_rolls; rw [if_pos c1]; rw [if_neg c2]) rfl dX7_rolls_26
    · skip
      refine lv_iconst (v := 1) hx hb dX7_rolls_21 (by decide) ?_
      refine lv_goto (tgt := 26) hx hb dX7_rolls_22 (by decide) ?_
      exact r_ret X hw hk hret rfl (by unfold sp_X7_rolls; rw [if_pos c1]; rw [if_pos c2]) rfl dX7_rolls_26

noncomputable def sp_X7_stepped (s : Row) (r : Nat) : Int32 := (if (sp_X7_rolls s r) = 0 then (if 9 ≤ ((s (0 + r)) - (s (0 + r)) / 16 * 16) then (if ((s (0 + r)) / 16) = 15 then 0 else 16 * (((s (0 + r)) / 16) + 1)) else (s (0 + r)) + 1) else sp_X7_first (nI r))
set_option maxRecDepth 100000 in
set_option maxHeartbeats 4000000 in
theorem c_X7_stepped (l : Launch) (D : va_G) (sz : Nat) (L : Nat → Nat) (s : Row) (S2 : MT) (r : Nat) (hr : r < 7) : MI l yX7_stepped cX7_stepped 3 (some .int) 7 150 D sz [.ref (L 0), .int (nI r)] (mW D L (s, S2)) (sp_X7_stepped s r) (mW D L (s, S2)) := by
  refine r_enterI (by decide) (Nat.le_of_ble_eq_true rfl) ?_
  intro p e st m args below meth c ls A X hret hk hw hl
  have X : CX D p m c cX7_stepped 3 st args RX7 A := X
  have hx := X.1.1
  have hb := X.1.2.1
  have hown := X.1.2.2.2.1
  have hts := X.1.2.2.2.2
  have hl : lv_has ls 3 [(0, .ref (L 0)), (1, .int (nI r))] := hl
  refine lv_aload_n hx hb dX7_stepped_0 rfl (lv_at hl 0 rfl) ?_
  refine r_get X hw (v := .ref (L 1)) fl_X7_7 (m_at 0 rfl) rfl dX7_stepped_1 ?_
  refine lv_iconst (v := 0) hx hb dX7_stepped_4 (by decide) ?_
  refine lv_iload_n hx hb dX7_stepped_5 rfl (lv_at hl 1 rfl) ?_
  refine r_addN hx hb 0 r rfl rfl dX7_stepped_6 ?_
  refine r_iald X hw (f := s) (0 + r) (m_at 1 rfl) rfl (by omega) (by decide) dX7_stepped_7 ?_
  refine lv_istore_n (lv' := [(2, .int (s (0 + r))), (0, .ref (L 0)), (1, .int (nI r))]) hx hb dX7_stepped_8 rfl hl (by decide) rfl (fun ls hl => ?_)
  refine lv_aload_n hx hb dX7_stepped_9 rfl (lv_at hl 1 rfl) ?_
  refine lv_iload_n hx hb dX7_stepped_10 rfl (lv_at hl 2 rfl) ?_
  refine r_callV X hw (ws' := mW D L (s, S2)) (As := [.int (nI r)]) (rest := []) lk_X7_74 (c_X7_rolls l D _ L s S2 r (by omega)) Foc.all (m_at 0 rfl) rfl hl.1 (Nat.le_of_ble_eq_true rfl) ⟨Nat.le_of_ble_eq_true rfl, Nat.le_of_ble_eq_true rfl⟩ rfl dX7_stepped_11 ⟨Nat.le_refl _, Nat.le_refl _⟩ (fun H locs hw => ?_)
  refine lv_if_eq (tgt := 22) hx hb dX7_stepped_14 (by decide) (fun c1 => ?_) (fun c1 => ?_)
  · skip
    refine lv_iload_n hx hb dX7_stepped_22 rfl (lv_at hl 0 rfl) ?_
    refine lv_bipush (v := 16) hx hb dX7_stepped_23 (by decide) ?_
    refine lv_irem hx hb dX7_stepped_25 (by decide) ?_
    refine lv_bipush (v := 9) hx hb dX7_stepped_26 (by decide) ?_
    refine lv_icmp_ge (tgt := 35) hx hb dX7_stepped_28 (by decide) (fun c2 => ?_) (fun c2 => ?_)
    · skip
      refine lv_iload_n hx hb dX7_stepped_35 rfl (lv_at hl 0 rfl) ?_
      refine lv_bipush (v := 16) hx hb dX7_stepped_36 (by decide) ?_
      refine lv_idiv hx hb dX7_stepped_38 (by decide) ?_
      refine lv_bipush (v := 15) hx hb dX7_stepped_39 (by decide) ?_
      refine lv_icmp_ne (tgt := 48) hx hb dX7_stepped_41 (by decide) (fun c3 => ?_) (fun c3 => ?_)
      · skip
        refine lv_bipush (v := 16) hx hb dX7_stepped_48 (by decide) ?_
        refine lv_iload_n hx hb dX7_stepped_50 rfl (lv_at hl 0 rfl) ?_
        refine lv_bipush (v := 16) hx hb dX7_stepped_51 (by decide) ?_
        refine lv_idiv hx hb dX7_stepped_53 (by decide) ?_
        refine lv_iconst (v := 1) hx hb dX7_stepped_54 (by decide) ?_
        refine lv_iadd hx hb dX7_stepped_55 ?_
        refine lv_imul hx hb dX7_stepped_56 ?_
        exact r_ret X hw hk hret rfl (by unfold sp_X7_stepped; rw [if_pos c1]; rw [if_pos c2]; rw [if_neg c3]) rfl dX7_stepped_57
      · skip
        refine lv_iconst (v := 0) hx hb dX7_stepped_44 (by decide) ?_
        refine lv_goto (tgt := 57) hx hb dX7_stepped_45 (by decide) ?_
        exact r_ret X hw hk hret rfl (by unfold sp_X7_stepped; rw [if_pos c1]; rw [if_pos c2]; rw [if_pos c3]) rfl dX7_stepped_57
    · skip
      refine lv_iload_n hx hb dX7_stepped_31 rfl (lv_at hl 0 rfl) ?_
      refine lv_iconst (v := 1) hx hb dX7_stepped_32 (by decide) ?_
      refine lv_iadd hx hb dX7_stepped_33 ?_
      exact r_ret X hw hk hret rfl (by unfold sp_X7_stepped; rw [if_pos c1]; rw [if_neg c2]) rfl dX7_stepped_34
  · skip
    refine lv_iload_n hx hb dX7_stepped_17 rfl (lv_at hl 2 rfl) ?_
    refine r_callS X hw (ws' := mW D L (s, S2)) (As := [.int (nI r)]) (rest := []) lk_X7_57 (c_X7_first l D _ (nI r)) Foc.nil rfl hl.1 (Nat.le_of_ble_eq_true rfl) ⟨Nat.le_of_ble_eq_true rfl, Nat.le_of_ble_eq_true rfl⟩ rfl dX7_stepped_18 ⟨Nat.le_refl _, Nat.le_refl _⟩ (fun H locs hw => ?_)
    exact r_ret X hw hk hret rfl (by unfold sp_X7_stepped; rw [if_neg c1]) rfl dX7_stepped_21
end
section
set_option maxRecDepth 100000 in
set_option maxHeartbeats 4000000 in
theorem c_X7_alarmAtN (l : Launch) (D : va_G) (sz : Nat) (a : Nat) (ha : a < 3) : MI l yX7_alarmAt cX7_alarmAt 1 (some .int) 0 0 D sz [.int (nI a)] [] (nI (40 + 9 * a)) ([]) := by
  refine r_enterI (by decide) (Nat.le_of_ble_eq_true rfl) ?_
  intro p e st m args below meth c ls A X hret hk hw hl
  have X : CX D p m c cX7_alarmAt 1 st args RX7 A := X
  have hx := X.1.1
  have hb := X.1.2.1
  have hown := X.1.2.2.2.1
  have hts := X.1.2.2.2.2
  have hl : lv_has ls 1 [(0, .int (nI a))] := hl
  refine lv_bipush (v := 40) hx hb dX7_alarmAt_0 (by decide) ?_
  refine lv_bipush (v := 9) hx hb dX7_alarmAt_2 (by decide) ?_
  refine lv_iload_n hx hb dX7_alarmAt_4 rfl (lv_at hl 0 rfl) ?_
  refine r_mulN hx hb 9 a rfl rfl dX7_alarmAt_5 ?_
  refine r_addN hx hb 40 (9 * a) rfl rfl dX7_alarmAt_6 ?_
  exact r_ret X hw hk hret rfl rfl rfl dX7_alarmAt_7

noncomputable def sp_X7_puts (s : Row) (r : Nat) (v : Int32) : Row := upd s (0 + r) ((v &&& (255 - (s (7 + r)))) ||| ((s (14 + r)) &&& (s (7 + r))))
set_option maxRecDepth 100000 in
set_option maxHeartbeats 4000000 in
theorem c_X7_puts (l : Launch) (D : va_G) (sz : Nat) (L : Nat → Nat) (s : Row) (S2 : MT) (r : Nat) (v : Int32) (hr : r < 7) : MV l yX7_puts cX7_puts 4 0 0 D sz [.ref (L 0), .int (nI r), .int v] (mW D L (s, S2)) (mW D L (sp_X7_puts s r v, S2)) := by
  refine r_enterV (by decide) (Nat.le_of_ble_eq_true rfl) ?_
  intro p e st m args below meth c ls A X hret hk hw hl
  have X : CX D p m c cX7_puts 4 st args RX7 A := X
  have hx := X.1.1
  have hb := X.1.2.1
  have hown := X.1.2.2.2.1
  have hts := X.1.2.2.2.2
  have hl : lv_has ls 4 [(0, .ref (L 0)), (1, .int (nI r)), (2, .int v)] := hl
  refine lv_aload_n hx hb dX7_puts_0 rfl (lv_at hl 0 rfl) ?_
  refine r_get X hw (v := .ref (L 1)) fl_X7_7 (m_at 0 rfl) rfl dX7_puts_1 ?_
  refine lv_bipush (v := 7) hx hb dX7_puts_4 (by decide) ?_
  refine lv_iload_n hx hb dX7_puts_6 rfl (lv_at hl 1 rfl) ?_
  refine r_addN hx hb 7 r rfl rfl dX7_puts_7 ?_
  refine r_iald X hw (f := s) (7 + r) (m_at 1 rfl) rfl (by omega) (by decide) dX7_puts_8 ?_
  refine lv_istore_n (lv' := [(3, .int (s (7 + r))), (0, .ref (L 0)), (1, .int (nI r)), (2, .int v)]) hx hb dX7_puts_9 rfl hl (by decide) rfl (fun ls hl => ?_)
  refine lv_aload_n hx hb dX7_puts_10 rfl (lv_at hl 1 rfl) ?_
  refine r_get X hw (v := .ref (L 1)) fl_X7_7 (m_at 0 rfl) rfl dX7_puts_11 ?_
  refine lv_iconst (v := 0) hx hb dX7_puts_14 (by decide) ?_
  refine lv_iload_n hx hb dX7_puts_15 rfl (lv_at hl 2 rfl) ?_
  refine r_addN hx hb 0 r rfl rfl dX7_puts_16 ?_
  refine lv_iload_n hx hb dX7_puts_17 rfl (lv_at hl 3 rfl) ?_
  refine lv_sipush (v := 255) hx hb dX7_puts_18 (by decide) ?_
  refine lv_iload_n hx hb dX7_puts_21 rfl (lv_at hl 0 rfl) ?_
  refine lv_isub hx hb dX7_puts_22 ?_
  refine lv_iand hx hb dX7_puts_23 ?_
  refine lv_aload_n hx hb dX7_puts_24 rfl (lv_at hl 1 rfl) ?_
  refine r_get X hw (v := .ref (L 1)) fl_X7_7 (m_at 0 rfl) rfl dX7_puts_25 ?_
  refine lv_bipush (v := 14) hx hb dX7_puts_28 (by decide) ?_
  refine lv_iload_n hx hb dX7_puts_30 rfl (lv_at hl 2 rfl) ?_
  refine r_addN hx hb 14 r rfl rfl dX7_puts_31 ?_
  refine r_iald X hw (f := s) (14 + r) (m_at 1 rfl) rfl (by omega) (by decide) dX7_puts_32 ?_
  refine lv_iload_n hx hb dX7_puts_33 rfl (lv_at hl 0 rfl) ?_
  refine lv_iand hx hb dX7_puts_34 ?_
  refine lv_ior hx hb dX7_puts_35 ?_
  refine r_iast X hw (ws' := mW D L (upd s (0 + r) ((v &&& (255 - (s (7 + r)))) ||| ((s (14 + r)) &&& (s (7 + r)))), S2)) (0 + r) rfl (by omega) (by decide) (Foc.cell 1 rfl rfl rfl) dX7_puts_36 (fun H locs hw => ?_)
  exact r_retV X hw hk hret (rfl) dX7_puts_37

noncomputable def sp_X7_steps (s : Row) (r : Nat) : Int32 × Row := (if (sp_X7_rolls s r) = 0 then (sp_X7_rolls s r, upd (sp_X7_puts s r (sp_X7_stepped s r)) (21 + r) (((sp_X7_puts s r (sp_X7_stepped s r)) (21 + r)) + 0)) else (sp_X7_rolls s r, upd (sp_X7_puts s r (sp_X7_stepped s r)) (21 + r) (((sp_X7_puts s r (sp_X7_stepped s r)) (21 + r)) + 1)))
set_option maxRecDepth 100000 in
set_option maxHeartbeats 4000000 in
theorem c_X7_steps (l : Launch) (D : va_G) (sz : Nat) (L : Nat → Nat) (s : Row) (S2 : MT) (r : Nat) (hr : r < 7) : MI l yX7_steps cX7_steps 3 (some .boolean) 8 172 D sz [.ref (L 0), .int (nI r)] (mW D L (s, S2)) ((sp_X7_steps s r).1) (mW D L ((sp_X7_steps s r).2, S2)) := by
  refine r_enterI (by decide) (Nat.le_of_ble_eq_true rfl) ?_
  intro p e st m args below meth c ls A X hret hk hw hl
  have X : CX D p m c cX7_steps 3 st args RX7 A := X
  have hx := X.1.1
  have hb := X.1.2.1
  have hown := X.1.2.2.2.1
  have hts := X.1.2.2.2.2
  have hl : lv_has ls 3 [(0, .ref (L 0)), (1, .int (nI r))] := hl
  refine lv_aload_n hx hb dX7_steps_0 rfl (lv_at hl 0 rfl) ?_
  refine lv_iload_n hx hb dX7_steps_1 rfl (lv_at hl 1 rfl) ?_
  refine r_callV X hw (ws' := mW D L (s, S2)) (As := [.int (nI r)]) (rest := []) lk_X7_74 (c_X7_rolls l D _ L s S2 r (by omega)) Foc.all (m_at 0 rfl) rfl hl.1 (Nat.le_of_ble_eq_true rfl) ⟨Nat.le_of_ble_eq_true rfl, Nat.le_of_ble_eq_true rfl⟩ rfl dX7_steps_2 ⟨Nat.le_refl _, Nat.le_refl _⟩ (fun H locs hw => ?_)
  refine lv_istore_n (lv' := [(2, .int (sp_X7_rolls s r)), (0, .ref (L 0)), (1, .int (nI r))]) hx hb dX7_steps_5 rfl hl (by decide) rfl (fun ls hl => ?_)
  refine lv_aload_n hx hb dX7_steps_6 rfl (lv_at hl 1 rfl) ?_
  refine lv_iload_n hx hb dX7_steps_7 rfl (lv_at hl 2 rfl) ?_
  refine lv_aload_n hx hb dX7_steps_8 rfl (lv_at hl 1 rfl) ?_
  refine lv_iload_n hx hb dX7_steps_9 rfl (lv_at hl 2 rfl) ?_
  refine r_callV X hw (ws' := mW D L (s, S2)) (As := [.int (nI r)]) (rest := [.int (nI r), .ref (L 0)]) lk_X7_81 (c_X7_stepped l D _ L s S2 r (by omega)) Foc.all (m_at 0 rfl) rfl hl.1 (Nat.le_of_ble_eq_true rfl) ⟨Nat.le_of_ble_eq_true rfl, Nat.le_of_ble_eq_true rfl⟩ rfl dX7_steps_10 ⟨Nat.le_refl _, Nat.le_refl _⟩ (fun H locs hw => ?_)
  refine r_callVv X hw (ws' := mW D L (sp_X7_puts s r (sp_X7_stepped s r), S2)) (As := [.int (nI r), .int (sp_X7_stepped s r)]) (rest := []) lk_X7_84 (c_X7_puts l D _ L s S2 r (sp_X7_stepped s r) (by omega)) Foc.all (m_at 0 rfl) rfl hl.1 (Nat.le_of_ble_eq_true rfl) ⟨Nat.le_of_ble_eq_true rfl, Nat.le_of_ble_eq_true rfl⟩ rfl dX7_steps_13 ⟨Nat.le_refl _, Nat.le_refl _⟩ (fun H locs hw => ?_)
  refine lv_aload_n hx hb dX7_steps_16 rfl (lv_at hl 1 rfl) ?_
  refine r_get X hw (v := .ref (L 1)) fl_X7_7 (m_at 0 rfl) rfl dX7_steps_17 ?_
  refine lv_bipush (v := 21) hx hb dX7_steps_20 (by decide) ?_
  refine lv_iload_n hx hb dX7_steps_22 rfl (lv_at hl 2 rfl) ?_
  refine r_addN hx hb 21 r rfl rfl dX7_steps_23 ?_
  refine lv_dup2_11 hx hb dX7_steps_24 rfl rfl ?_
  refine r_iald X hw (f := sp_X7_puts s r (sp_X7_stepped s r)) (21 + r) (m_at 1 rfl) rfl (by omega) (by decide) dX7_steps_25 ?_
  refine lv_iload_n hx hb dX7_steps_26 rfl (lv_at hl 0 rfl) ?_
  refine lv_if_eq (tgt := 34) hx hb dX7_steps_27 (by decide) (fun c1 => ?_) (fun c1 => ?_)
  · skip
    refine lv_iconst (v := 0) hx hb dX7_steps_34 (by decide) ?_
    refine lv_iadd hx hb dX7_steps_35 ?_
    refine r_iast X hw (ws' := mW D L (upd (sp_X7_puts s r (sp_X7_stepped s r)) (21 + r) (((sp_X7_puts s r (sp_X7_stepped s r)) (21 + r)) + 0), S2)) (21 + r) rfl (by omega) (by decide) (Foc.cell 1 rfl rfl rfl) dX7_steps_36 (fun H locs hw => ?_)
    refine lv_iload_n hx hb dX7_steps_37 rfl (lv_at hl 0 rfl) ?_
    exact r_ret X hw hk hret (nar_b (bo_X7_rolls s r)) (by unfold sp_X7_steps; rw [if_pos c1]) (by unfold sp_X7_steps; rw [if_pos c1]) dX7_steps_38
  · skip
    refine lv_iconst (v := 1) hx hb dX7_steps_30 (by decide) ?_
    refine lv_goto (tgt := 35) hx hb dX7_steps_31 (by decide) ?_
    refine lv_iadd hx hb dX7_steps_35 ?_
    refine r_iast X hw (ws' := mW D L (upd (sp_X7_puts s r (sp_X7_stepped s r)) (21 + r) (((sp_X7_puts s r (sp_X7_stepped s r)) (21 + r)) + 1), S2)) (21 + r) rfl (by omega) (by decide) (Foc.cell 1 rfl rfl rfl) dX7_steps_36 (fun H locs hw => ?_)
    refine lv_iload_n hx hb dX7_steps_37 rfl (lv_at hl 0 rfl) ?_
    exact r_ret X hw hk hret (nar_b (bo_X7_rolls s r)) (by unfold sp_X7_steps; rw [if_neg c1]) (by unfold sp_X7_steps; rw [if_neg c1]) dX7_steps_38

/-- a flag that a loop carries, by what it stands for -/
def BI (x : Int32) (P : Prop) : Prop := (x = 1 ∧ P) ∨ (x = 0 ∧ ¬ P)
theorem bi_0 {P : Nat → Prop} : BI 1 (∀ r, r < 0 → P r) := Or.inl ⟨rfl, fun r h => absurd h (Nat.not_lt_zero r)⟩
theorem bi_f0 {x : Int32} {P : Nat → Prop} {i : Nat} (h : BI x (∀ r, r < i → P r)) (hx : x = 0) : BI 0 (∀ r, r < i + 1 → P r) := by
  rcases h with ⟨h, -⟩ | ⟨-, h⟩
  · rw [hx] at h; exact absurd h (by decide)
  · exact Or.inr ⟨rfl, fun q => h (fun r hr => q r (Nat.lt_succ_of_lt hr))⟩
theorem bi_t {x : Int32} {P : Nat → Prop} {i : Nat} (h : BI x (∀ r, r < i → P r)) (hx : ¬ x = 0) (hp : P i) : BI 1 (∀ r, r < i + 1 → P r) := by
  rcases h with ⟨-, h⟩ | ⟨h, -⟩
  · refine Or.inl ⟨rfl, fun r hr => ?_⟩
    rcases Nat.lt_succ_iff_lt_or_eq.mp hr with q | q
    · exact h r q
    · rw [q]; exact hp
  · exact absurd h hx
theorem bi_f {x : Int32} {P : Nat → Prop} {i : Nat} (hp : ¬ P i) : BI 0 (∀ r, r < i + 1 → P r) := Or.inr ⟨rfl, fun q => hp (q i (Nat.lt_succ_self i))⟩
/-- a proposition as a number -/
noncomputable def bI (P : Prop) : Int32 := @ite _ P (Classical.propDecidable P) 1 0
theorem bI_t {P : Prop} (h : P) : bI P = 1 := if_pos h
theorem bI_f {P : Prop} (h : ¬ P) : bI P = 0 := if_neg h
theorem bI_b (P : Prop) : bI P = 0 ∨ bI P = 1 := by
  rcases Classical.em P with h | h
  · exact Or.inr (bI_t h)
  · exact Or.inl (bI_f h)
theorem bI_0 {P : Prop} : bI P = 0 ↔ ¬ P := ⟨fun h q => by rw [bI_t q] at h; exact absurd h (by decide), bI_f⟩
theorem bI_1 {P : Prop} : bI P = 1 ↔ P := ⟨fun h => Classical.byContradiction fun q => by rw [bI_f q] at h; exact absurd h (by decide), bI_t⟩
theorem bI_n {P : Prop} : ¬ bI P = 0 ↔ P := ⟨fun h => Classical.byContradiction fun q => h (bI_f q), fun h q => by rw [bI_t h] at q; exact absurd q (by decide)⟩
theorem bI_c {P Q : Prop} (h : P ↔ Q) : bI P = bI Q := by rw [show P = Q from propext h]
theorem bi_end {x : Int32} {P : Prop} (h : BI x P) : x = bI P := by
  rcases h with ⟨h, q⟩ | ⟨h, q⟩
  · rw [bI_t q]; exact h
  · rw [bI_f q]; exact h
theorem bi_b {x : Int32} {P : Prop} (h : BI x P) : x = 0 ∨ x = 1 := by
  rcases h with ⟨h, -⟩ | ⟨h, -⟩
  · exact Or.inr h
  · exact Or.inl h
/-- an alarm's value of a register is masked, or as the register has it -/
abbrev rMatP (s : Row) (a r : Nat) : Prop := (s (40 + 9 * a + 5) >>> (nI r &&& 31)) &&& 1 = 1 ∨ s (40 + 9 * a + r) = s (0 + r)
noncomputable def sp_X7_matches (s : Row) (a : Nat) : Int32 := bI (∀ r, r < 5 → rMatP s a r)
theorem bo_X7_matches (s : Row) (a : Nat) : sp_X7_matches s a = 0 ∨ sp_X7_matches s a = 1 := bI_b _

set_option maxRecDepth 100000 in
set_option maxHeartbeats 4000000 in
theorem c_X7_matches (l : Launch) (D : va_G) (sz : Nat) (L : Nat → Nat) (s : Row) (S2 : MT) (a : Nat) (ha : a < 3) : MI l yX7_matches cX7_matches 5 (some .boolean) 1 20 D sz [.ref (L 0), .int (nI a)] (mW D L (s, S2)) (sp_X7_matches s a) (mW D L (s, S2)) := by
  refine r_enterI (by decide) (Nat.le_of_ble_eq_true rfl) ?_
  intro p e st m args below meth c ls A X hret hk hw hl
  have X : CX D p m c cX7_matches 5 st args RX7 A := X
  have hx := X.1.1
  have hb := X.1.2.1
  have hown := X.1.2.2.2.1
  have hts := X.1.2.2.2.2
  have hl : lv_has ls 5 [(0, .ref (L 0)), (1, .int (nI a))] := hl
  refine lv_iload_n hx hb dX7_matches_0 rfl (lv_at hl 1 rfl) ?_
  refine r_callS X hw (ws' := mW D L (s, S2)) (As := [.int (nI a)]) (rest := []) lk_X7_88 (c_X7_alarmAtN l D _ a (by omega)) Foc.nil rfl hl.1 (Nat.le_of_ble_eq_true rfl) ⟨Nat.le_of_ble_eq_true rfl, Nat.le_of_ble_eq_true rfl⟩ rfl dX7_matches_1 ⟨Nat.le_refl _, Nat.le_refl _⟩ (fun H locs hw => ?_)
  refine lv_istore_n (lv' := [(2, .int (nI (40 + 9 * a))), (0, .ref (L 0)), (1, .int (nI a))]) hx hb dX7_matches_4 rfl hl (by decide) rfl (fun ls hl => ?_)
  refine lv_iconst (v := 1) hx hb dX7_matches_5 (by decide) ?_
  refine lv_istore_n (lv' := [(3, .int 1), (2, .int (nI (40 + 9 * a))), (0, .ref (L 0)), (1, .int (nI a))]) hx hb dX7_matches_6 rfl hl (by decide) rfl (fun ls hl => ?_)
  refine lv_iconst (v := 0) hx hb dX7_matches_7 (by decide) ?_
  refine lv_istore (lv' := [(4, .int 0), (3, .int 1), (2, .int (nI (40 + 9 * a))), (0, .ref (L 0)), (1, .int (nI a))]) hx hb dX7_matches_8 hl (by decide) rfl (fun ls hl => ?_)
  have key10 : ∀ (n10 : Nat) (i : Nat) (x : Int32), (i ≤ 5) → (5 - i < n10) → (BI x (∀ r, r < i → rMatP s a r)) → ∀ (H : Heap) (locs : List Loc) (ls : Array Slot), Wd D A st.heap H locs (mW D L (s, S2)) → lv_has ls 5 [(0, .ref (L 0)), (1, .int (nI a)), (2, .int (nI (40 + 9 * a))), (3, .int x), (4, .int (nI i))] → W p l e (rmOf 1 0 0 20) st m args below meth c H locs 0 0 (QI below args st D A (sp_X7_matches s a) (mW D L (s, S2))) (F0 m 10 ls []) := by
    intro n10
    induction n10 with
    | zero => intro i x hi hn hB; omega
    | succ n10 ih10 =>
      intro i x hi hn hB H locs ls hw hl
      refine lv_iload hx hb dX7_matches_10 (lv_at hl 4 rfl) ?_
      refine lv_iconst (v := 5) hx hb dX7_matches_12 (by decide) ?_
      refine r_geN (tgt := 70) hx hb i 5 rfl rfl (by omega) (by omega) dX7_matches_13 (by decide) (fun c1 => ?_) (fun c1 => ?_)
      · skip
        refine lv_iload_n hx hb dX7_matches_70 rfl (lv_at hl 3 rfl) ?_
        exact r_ret X hw hk hret (nar_b (bi_b hB)) (by rw [show i = 5 from by omega] at hB; exact bi_end hB) rfl dX7_matches_71
      · skip
        refine lv_iload_n hx hb dX7_matches_16 rfl (lv_at hl 3 rfl) ?_
        refine lv_if_eq (tgt := 62) hx hb dX7_matches_17 (by decide) (fun c2 => ?_) (fun c2 => ?_)
        · skip
          refine lv_iconst (v := 0) hx hb dX7_matches_62 (by decide) ?_
          refine lv_istore_n (lv' := [(3, .int 0), (0, .ref (L 0)), (1, .int (nI a)), (2, .int (nI (40 + 9 * a))), (4, .int (nI i))]) hx hb dX7_matches_63 rfl hl (by decide) rfl (fun ls hl => ?_)
          refine r_iincN (lv' := [(4, .int (nI (i + 1))), (3, .int 0), (0, .ref (L 0)), (1, .int (nI a)), (2, .int (nI (40 + 9 * a)))]) hx hb i 1 rfl dX7_matches_64 hl (k := 4) rfl rfl (by decide) rfl (fun ls hl => ?_)
          refine lv_goto (tgt := 10) hx hb dX7_matches_67 (by decide) ?_
          exact ih10 (i + 1) 0 (by omega) (by omega) (bi_f0 hB c2) _ _ _ hw (lv_sub hl [2, 3, 4, 1, 0] rfl)
        · skip
          refine lv_aload_n hx hb dX7_matches_20 rfl (lv_at hl 0 rfl) ?_
          refine r_get X hw (v := .ref (L 1)) fl_X7_7 (m_at 0 rfl) rfl dX7_matches_21 ?_
          refine lv_iload_n hx hb dX7_matches_24 rfl (lv_at hl 2 rfl) ?_
          refine lv_iconst (v := 5) hx hb dX7_matches_25 (by decide) ?_
          refine r_addN hx hb (40 + 9 * a) 5 rfl rfl dX7_matches_26 ?_
          refine r_iald X hw (f := s) (40 + 9 * a + 5) (m_at 1 rfl) rfl (by omega) (by decide) dX7_matches_27 ?_
          refine lv_iload hx hb dX7_matches_28 (lv_at hl 4 rfl) ?_
          refine lv_ishr hx hb dX7_matches_30 ?_
          refine lv_iconst (v := 1) hx hb dX7_matches_31 (by decide) ?_
          refine lv_iand hx hb dX7_matches_32 ?_
          refine lv_iconst (v := 1) hx hb dX7_matches_33 (by decide) ?_
          refine lv_icmp_eq (tgt := 58) hx hb dX7_matches_34 (by decide) (fun c3 => ?_) (fun c3 => ?_)
          · skip
            refine lv_iconst (v := 1) hx hb dX7_matches_58 (by decide) ?_
            refine lv_goto (tgt := 63) hx hb dX7_matches_59 (by decide) ?_
            refine lv_istore_n (lv' := [(3, .int 1), (0, .ref (L 0)), (1, .int (nI a)), (2, .int (nI (40 + 9 * a))), (4, .int (nI i))]) hx hb dX7_matches_63 rfl hl (by decide) rfl (fun ls hl => ?_)
            refine r_iincN (lv' := [(4, .int (nI (i + 1))), (3, .int 1), (0, .ref (L 0)), (1, .int (nI a)), (2, .int (nI (40 + 9 * a)))]) hx hb i 1 rfl dX7_matches_64 hl (k := 4) rfl rfl (by decide) rfl (fun ls hl => ?_)
            refine lv_goto (tgt := 10) hx hb dX7_matches_67 (by decide) ?_
            exact ih10 (i + 1) 1 (by omega) (by omega) (bi_t hB c2 (Or.inl c3)) _ _ _ hw (lv_sub hl [2, 3, 4, 1, 0] rfl)
          · skip
            refine lv_aload_n hx hb dX7_matches_37 rfl (lv_at hl 0 rfl) ?_
            refine r_get X hw (v := .ref (L 1)) fl_X7_7 (m_at 0 rfl) rfl dX7_matches_38 ?_
            refine lv_iload_n hx hb dX7_matches_41 rfl (lv_at hl 2 rfl) ?_
            refine lv_iload hx hb dX7_matches_42 (lv_at hl 4 rfl) ?_
            refine r_addN hx hb (40 + 9 * a) i rfl rfl dX7_matches_44 ?_
            refine r_iald X hw (f := s) (40 + 9 * a + i) (m_at 1 rfl) rfl (by omega) (by decide) dX7_matches_45 ?_
            refine lv_aload_n hx hb dX7_matches_46 rfl (lv_at hl 0 rfl) ?_
            refine r_get X hw (v := .ref (L 1)) fl_X7_7 (m_at 0 rfl) rfl dX7_matches_47 ?_
            refine lv_iconst (v := 0) hx hb dX7_matches_50 (by decide) ?_
            refine lv_iload hx hb dX7_matches_51 (lv_at hl 4 rfl) ?_
            refine r_addN hx hb 0 i rfl rfl dX7_matches_53 ?_
            refine r_iald X hw (f := s) (0 + i) (m_at 1 rfl) rfl (by omega) (by decide) dX7_matches_54 ?_
            refine lv_icmp_ne (tgt := 62) hx hb dX7_matches_55 (by decide) (fun c4 => ?_) (fun c4 => ?_)
            · skip
              refine lv_iconst (v := 0) hx hb dX7_matches_62 (by decide) ?_
              refine lv_istore_n (lv' := [(3, .int 0), (0, .ref (L 0)), (1, .int (nI a)), (2, .int (nI (40 + 9 * a))), (4, .int (nI i))]) hx hb dX7_matches_63 rfl hl (by decide) rfl (fun ls hl => ?_)
              refine r_iincN (lv' := [(4, .int (nI (i + 1))), (3, .int 0), (0, .ref (L 0)), (1, .int (nI a)), (2, .int (nI (40 + 9 * a)))]) hx hb i 1 rfl dX7_matches_64 hl (k := 4) rfl rfl (by decide) rfl (fun ls hl => ?_)
              refine lv_goto (tgt := 10) hx hb dX7_matches_67 (by decide) ?_
              exact ih10 (i + 1) 0 (by omega) (by omega) (bi_f (x := x) (not_or.mpr ⟨c3, c4⟩)) _ _ _ hw (lv_sub hl [2, 3, 4, 1, 0] rfl)
            · skip
              refine lv_iconst (v := 1) hx hb dX7_matches_58 (by decide) ?_
              refine lv_goto (tgt := 63) hx hb dX7_matches_59 (by decide) ?_
              refine lv_istore_n (lv' := [(3, .int 1), (0, .ref (L 0)), (1, .int (nI a)), (2, .int (nI (40 + 9 * a))), (4, .int (nI i))]) hx hb dX7_matches_63 rfl hl (by decide) rfl (fun ls hl => ?_)
              refine r_iincN (lv' := [(4, .int (nI (i + 1))), (3, .int 1), (0, .ref (L 0)), (1, .int (nI a)), (2, .int (nI (40 + 9 * a)))]) hx hb i 1 rfl dX7_matches_64 hl (k := 4) rfl rfl (by decide) rfl (fun ls hl => ?_)
              refine lv_goto (tgt := 10) hx hb dX7_matches_67 (by decide) ?_
              exact ih10 (i + 1) 1 (by omega) (by omega) (bi_t hB c2 (Or.inr c4)) _ _ _ hw (lv_sub hl [2, 3, 4, 1, 0] rfl)
  exact key10 6 0 1 (by omega) (by omega) bi_0 _ _ _ hw (lv_sub hl [3, 4, 2, 1, 0] rfl)

/-- an alarm after a tick -/
noncomputable def alStep (s : Row) (a : Nat) : Row := if s (40 + 9 * a + 6) = 1 then (if sp_X7_matches s a = 0 then s else upd (upd (upd s (40 + 9 * a + 7) 1) (40 + 9 * a + 8) ((upd s (40 + 9 * a + 7) 1) (40 + 9 * a + 8) + 1)) 30 ((upd (upd s (40 + 9 * a + 7) 1) (40 + 9 * a + 8) ((upd s (40 + 9 * a + 7) 1) (40 + 9 * a + 8) + 1)) 30 + 1)) else s
noncomputable def alF (s : Row) : Nat → Row
  | 0 => s
  | i + 1 => alStep (alF s i) i

noncomputable def sp_X7_tickR (s : Row) : Row := (if ((sp_X7_steps (upd s 29 ((s 29) + 1)) 0).1) = 0 then (sp_X7_steps (upd s 29 ((s 29) + 1)) 0).2 else (if ((sp_X7_steps ((sp_X7_steps (upd s 29 ((s 29) + 1)) 0).2) 1).1) = 0 then (sp_X7_steps ((sp_X7_steps (upd s 29 ((s 29) + 1)) 0).2) 1).2 else (if ((sp_X7_steps ((sp_X7_steps ((sp_X7_steps (upd s 29 ((s 29) + 1)) 0).2) 1).2) 2).1) = 0 then (sp_X7_steps ((sp_X7_steps ((sp_X7_steps (upd s 29 ((s 29) + 1)) 0).2) 1).2) 2).2 else (if ((sp_X7_steps ((sp_X7_steps ((sp_X7_steps ((sp_X7_steps ((sp_X7_steps (upd s 29 ((s 29) + 1)) 0).2) 1).2) 2).2) 3).2) 4).1) = 0 then (sp_X7_steps ((sp_X7_steps ((sp_X7_steps ((sp_X7_steps ((sp_X7_steps (upd s 29 ((s 29) + 1)) 0).2) 1).2) 2).2) 3).2) 4).2 else (if ((sp_X7_steps ((sp_X7_steps ((sp_X7_steps ((sp_X7_steps ((sp_X7_steps ((sp_X7_steps (upd s 29 ((s 29) + 1)) 0).2) 1).2) 2).2) 3).2) 4).2) 5).1) = 0 then (sp_X7_steps ((sp_X7_steps ((sp_X7_steps ((sp_X7_steps ((sp_X7_steps ((sp_X7_steps (upd s 29 ((s 29) + 1)) 0).2) 1).2) 2).2) 3).2) 4).2) 5).2 else (sp_X7_steps ((sp_X7_steps ((sp_X7_steps ((sp_X7_steps ((sp_X7_steps ((sp_X7_steps ((sp_X7_steps (upd s 29 ((s 29) + 1)) 0).2) 1).2) 2).2) 3).2) 4).2) 5).2) 6).2)))))
noncomputable def sp_X7_tick (s : Row) : Row := alF (sp_X7_tickR s) 3
set_option maxRecDepth 100000 in
set_option maxHeartbeats 4000000 in
theorem c_X7_tick (l : Launch) (D : va_G) (sz : Nat) (L : Nat → Nat) (s : Row) (S2 : MT) : MV l yX7_tick cX7_tick 4 9 194 D sz [.ref (L 0)] (mW D L (s, S2)) (mW D L (sp_X7_tick s, S2)) := by
  refine r_enterV (by decide) (Nat.le_of_ble_eq_true rfl) ?_
  intro p e st m args below meth c ls A X hret hk hw hl
  have X : CX D p m c cX7_tick 4 st args RX7 A := X
  have hx := X.1.1
  have hb := X.1.2.1
  have hown := X.1.2.2.2.1
  have hts := X.1.2.2.2.2
  have hl : lv_has ls 4 [(0, .ref (L 0))] := hl
  have cut76 : ∀ (s1 : Row), (sp_X7_tick s = alF s1 3) → ∀ (H : Heap) (locs : List Loc) (ls : Array Slot), Wd D A st.heap H locs (mW D L (s1, S2)) → lv_has ls 4 [(0, .ref (L 0))] → W p l e (rmOf 9 0 0 194) st m args below meth c H locs 0 0 (QV below args st D A (mW D L (sp_X7_tick s, S2))) (F0 m 76 ls []) := by
    intro s1 hq H locs ls hw hl
    refine lv_iconst (v := 0) hx hb dX7_tick_76 (by decide) ?_
    refine lv_istore_n (lv' := [(2, .int 0), (0, .ref (L 0))]) hx hb dX7_tick_77 rfl hl (by decide) rfl (fun ls hl => ?_)
    have key78 : ∀ (n78 : Nat) (i : Nat), (i ≤ 3) → (3 - i < n78) → ∀ (H : Heap) (locs : List Loc) (ls : Array Slot), Wd D A st.heap H locs (mW D L (alF s1 i, S2)) → lv_has ls 4 [(0, .ref (L 0)), (2, .int (nI i))] → W p l e (rmOf 9 0 0 194) st m args below meth c H locs 0 0 (QV below args st D A (mW D L (sp_X7_tick s, S2))) (F0 m 78 ls []) := by
      intro n78
      induction n78 with
      | zero => intro i hi hn; omega
      | succ n78 ih78 =>
        intro i hi hn H locs ls hw hl
        refine lv_iload_n hx hb dX7_tick_78 rfl (lv_at hl 1 rfl) ?_
        refine lv_iconst (v := 3) hx hb dX7_tick_79 (by decide) ?_
        refine r_geN (tgt := 149) hx hb i 3 rfl rfl (by omega) (by omega) dX7_tick_80 (by decide) (fun c1 => ?_) (fun c1 => ?_)
        · skip
          exact r_retV X hw hk hret (by rw [hq, show i = 3 from by omega]) dX7_tick_149
        · skip
          refine lv_iload_n hx hb dX7_tick_83 rfl (lv_at hl 1 rfl) ?_
          refine r_callS X hw (ws' := mW D L (alF s1 i, S2)) (As := [.int (nI i)]) (rest := []) lk_X7_88 (c_X7_alarmAtN l D _ i (by omega)) Foc.nil rfl hl.1 (Nat.le_of_ble_eq_true rfl) ⟨Nat.le_of_ble_eq_true rfl, Nat.le_of_ble_eq_true rfl⟩ rfl dX7_tick_84 ⟨Nat.le_refl _, Nat.le_refl _⟩ (fun H locs hw => ?_)
          refine lv_istore_n (lv' := [(3, .int (nI (40 + 9 * i))), (0, .ref (L 0)), (2, .int (nI i))]) hx hb dX7_tick_87 rfl hl (by decide) rfl (fun ls hl => ?_)
          refine lv_aload_n hx hb dX7_tick_88 rfl (lv_at hl 1 rfl) ?_
          refine r_get X hw (v := .ref (L 1)) fl_X7_7 (m_at 0 rfl) rfl dX7_tick_89 ?_
          refine lv_iload_n hx hb dX7_tick_92 rfl (lv_at hl 0 rfl) ?_
          refine lv_bipush (v := 6) hx hb dX7_tick_93 (by decide) ?_
          refine r_addN hx hb (40 + 9 * i) 6 rfl rfl dX7_tick_95 ?_
          refine r_iald X hw (f := alF s1 i) (40 + 9 * i + 6) (m_at 1 rfl) rfl (by omega) (by decide) dX7_tick_96 ?_
          refine lv_iconst (v := 1) hx hb dX7_tick_97 (by decide) ?_
          refine lv_icmp_ne (tgt := 143) hx hb dX7_tick_98 (by decide) (fun c2 => ?_) (fun c2 => ?_)
          · skip
            refine r_iincN (lv' := [(2, .int (nI (i + 1))), (3, .int (nI (40 + 9 * i))), (0, .ref (L 0))]) hx hb i 1 rfl dX7_tick_143 hl (k := 2) rfl rfl (by decide) rfl (fun ls hl => ?_)
            refine lv_goto (tgt := 78) hx hb dX7_tick_146 (by decide) ?_
            exact ih78 (i + 1) (by omega) (by omega) _ _ _ (by rw [show alF s1 (i + 1) = alF s1 i from (by show alStep _ _ = _; unfold alStep; rw [if_neg c2])]; exact hw) (lv_sub hl [2, 0] rfl)
          · skip
            refine lv_aload_n hx hb dX7_tick_101 rfl (lv_at hl 1 rfl) ?_
            refine lv_iload_n hx hb dX7_tick_102 rfl (lv_at hl 2 rfl) ?_
            refine r_callV X hw (ws' := mW D L (alF s1 i, S2)) (As := [.int (nI i)]) (rest := []) lk_X7_94 (c_X7_matches l D _ L (alF s1 i) S2 i (by omega)) Foc.all (m_at 0 rfl) rfl hl.1 (Nat.le_of_ble_eq_true rfl) ⟨Nat.le_of_ble_eq_true rfl, Nat.le_of_ble_eq_true rfl⟩ rfl dX7_tick_103 ⟨Nat.le_refl _, Nat.le_refl _⟩ (fun H locs hw => ?_)
            refine lv_if_eq (tgt := 143) hx hb dX7_tick_106 (by decide) (fun c3 => ?_) (fun c3 => ?_)
            · skip
              refine r_iincN (lv' := [(2, .int (nI (i + 1))), (3, .int (nI (40 + 9 * i))), (0, .ref (L 0))]) hx hb i 1 rfl dX7_tick_143 hl (k := 2) rfl rfl (by decide) rfl (fun ls hl => ?_)
              refine lv_goto (tgt := 78) hx hb dX7_tick_146 (by decide) ?_
              exact ih78 (i + 1) (by omega) (by omega) _ _ _ (by rw [show alF s1 (i + 1) = alF s1 i from (by show alStep _ _ = _; unfold alStep; rw [if_pos c2]; rw [if_pos c3])]; exact hw) (lv_sub hl [2, 0] rfl)
            · skip
              refine lv_aload_n hx hb dX7_tick_109 rfl (lv_at hl 1 rfl) ?_
              refine r_get X hw (v := .ref (L 1)) fl_X7_7 (m_at 0 rfl) rfl dX7_tick_110 ?_
              refine lv_iload_n hx hb dX7_tick_113 rfl (lv_at hl 0 rfl) ?_
              refine lv_bipush (v := 7) hx hb dX7_tick_114 (by decide) ?_
              refine r_addN hx hb (40 + 9 * i) 7 rfl rfl dX7_tick_116 ?_
              refine lv_iconst (v := 1) hx hb dX7_tick_117 (by decide) ?_
              refine r_iast X hw (ws' := mW D L (upd (alF s1 i) (40 + 9 * i + 7) 1, S2)) (40 + 9 * i + 7) rfl (by omega) (by decide) (Foc.cell 1 rfl rfl rfl) dX7_tick_118 (fun H locs hw => ?_)
              refine lv_aload_n hx hb dX7_tick_119 rfl (lv_at hl 1 rfl) ?_
              refine r_get X hw (v := .ref (L 1)) fl_X7_7 (m_at 0 rfl) rfl dX7_tick_120 ?_
              refine lv_iload_n hx hb dX7_tick_123 rfl (lv_at hl 0 rfl) ?_
              refine lv_bipush (v := 8) hx hb dX7_tick_124 (by decide) ?_
              refine r_addN hx hb (40 + 9 * i) 8 rfl rfl dX7_tick_126 ?_
              refine lv_dup2_11 hx hb dX7_tick_127 rfl rfl ?_
              refine r_iald X hw (f := upd (alF s1 i) (40 + 9 * i + 7) 1) (40 + 9 * i + 8) (m_at 1 rfl) rfl (by omega) (by decide) dX7_tick_128 ?_
              refine lv_iconst (v := 1) hx hb dX7_tick_129 (by decide) ?_
              refine lv_iadd hx hb dX7_tick_130 ?_
              refine r_iast X hw (ws' := mW D L (upd (upd (alF s1 i) (40 + 9 * i + 7) 1) (40 + 9 * i + 8) (((upd (alF s1 i) (40 + 9 * i + 7) 1) (40 + 9 * i + 8)) + 1), S2)) (40 + 9 * i + 8) rfl (by omega) (by decide) (Foc.cell 1 rfl rfl rfl) dX7_tick_131 (fun H locs hw => ?_)
              refine lv_aload_n hx hb dX7_tick_132 rfl (lv_at hl 1 rfl) ?_
              refine r_get X hw (v := .ref (L 1)) fl_X7_7 (m_at 0 rfl) rfl dX7_tick_133 ?_
              refine lv_bipush (v := 30) hx hb dX7_tick_136 (by decide) ?_
              refine lv_dup2_11 hx hb dX7_tick_138 rfl rfl ?_
              refine r_iald X hw (f := upd (upd (alF s1 i) (40 + 9 * i + 7) 1) (40 + 9 * i + 8) (((upd (alF s1 i) (40 + 9 * i + 7) 1) (40 + 9 * i + 8)) + 1)) 30 (m_at 1 rfl) rfl (by decide) (by decide) dX7_tick_139 ?_
              refine lv_iconst (v := 1) hx hb dX7_tick_140 (by decide) ?_
              refine lv_iadd hx hb dX7_tick_141 ?_
              refine r_iast X hw (ws' := mW D L (upd (upd (upd (alF s1 i) (40 + 9 * i + 7) 1) (40 + 9 * i + 8) (((upd (alF s1 i) (40 + 9 * i + 7) 1) (40 + 9 * i + 8)) + 1)) 30 (((upd (upd (alF s1 i) (40 + 9 * i + 7) 1) (40 + 9 * i + 8) (((upd (alF s1 i) (40 + 9 * i + 7) 1) (40 + 9 * i + 8)) + 1)) 30) + 1), S2)) 30 rfl (by decide) (by decide) (Foc.cell 1 rfl rfl rfl) dX7_tick_142 (fun H locs hw => ?_)
              refine r_iincN (lv' := [(2, .int (nI (i + 1))), (3, .int (nI (40 + 9 * i))), (0, .ref (L 0))]) hx hb i 1 rfl dX7_tick_143 hl (k := 2) rfl rfl (by decide) rfl (fun ls hl => ?_)
              refine lv_goto (tgt := 78) hx hb dX7_tick_146 (by decide) ?_
              exact ih78 (i + 1) (by omega) (by omega) _ _ _ (by rw [show alF s1 (i + 1) = upd (upd (upd (alF s1 i) (40 + 9 * i + 7) 1) (40 + 9 * i + 8) (((upd (alF s1 i) (40 + 9 * i + 7) 1) (40 + 9 * i + 8)) + 1)) 30 (((upd (upd (alF s1 i) (40 + 9 * i + 7) 1) (40 + 9 * i + 8) (((upd (alF s1 i) (40 + 9 * i + 7) 1) (40 + 9 * i + 8)) + 1)) 30) + 1) from (by show alStep _ _ = _; unfold alStep; rw [if_pos c2]; rw [if_neg c3])]; exact hw) (lv_sub hl [2, 0] rfl)
    exact key78 4 0 (by omega) (by omega) _ _ _ hw (lv_sub hl [1, 0] rfl)
  refine lv_aload_n hx hb dX7_tick_0 rfl (lv_at hl 0 rfl) ?_
  refine r_get X hw (v := .ref (L 1)) fl_X7_7 (m_at 0 rfl) rfl dX7_tick_1 ?_
  refine lv_bipush (v := 29) hx hb dX7_tick_4 (by decide) ?_
  refine lv_dup2_11 hx hb dX7_tick_6 rfl rfl ?_
  refine r_iald X hw (f := s) 29 (m_at 1 rfl) rfl (by decide) (by decide) dX7_tick_7 ?_
  refine lv_iconst (v := 1) hx hb dX7_tick_8 (by decide) ?_
  refine lv_iadd hx hb dX7_tick_9 ?_
  refine r_iast X hw (ws' := mW D L (upd s 29 ((s 29) + 1), S2)) 29 rfl (by decide) (by decide) (Foc.cell 1 rfl rfl rfl) dX7_tick_10 (fun H locs hw => ?_)
  refine lv_iconst (v := 1) hx hb dX7_tick_11 (by decide) ?_
  refine lv_istore_n (lv' := [(1, .int 1), (0, .ref (L 0))]) hx hb dX7_tick_12 rfl hl (by decide) rfl (fun ls hl => ?_)
  refine lv_iconst (v := 0) hx hb dX7_tick_13 (by decide) ?_
  refine lv_istore_n (lv' := [(2, .int 0), (1, .int 1), (0, .ref (L 0))]) hx hb dX7_tick_14 rfl hl (by decide) rfl (fun ls hl => ?_)
  refine lv_iload_n hx hb dX7_tick_15 rfl (lv_at hl 0 rfl) ?_
  refine lv_iconst (v := 2) hx hb dX7_tick_16 (by decide) ?_
  refine lv_icmp_gt (tgt := 36) hx hb dX7_tick_17 (by decide) (fun h => absurd h (by decide)) (fun _ => ?_)
  refine lv_iload_n hx hb dX7_tick_20 rfl (lv_at hl 1 rfl) ?_
  refine lv_if_eq (tgt := 36) hx hb dX7_tick_21 (by decide) (fun h => absurd h (by decide)) (fun _ => ?_)
  refine lv_aload_n hx hb dX7_tick_24 rfl (lv_at hl 2 rfl) ?_
  refine lv_iload_n hx hb dX7_tick_25 rfl (lv_at hl 0 rfl) ?_
  refine r_callV X hw (ws' := mW D L ((sp_X7_steps (upd s 29 ((s 29) + 1)) 0).2, S2)) (As := [.int 0]) (rest := []) lk_X7_91 (c_X7_steps l D _ L (upd s 29 ((s 29) + 1)) S2 0 (by omega)) Foc.all (m_at 0 rfl) rfl hl.1 (Nat.le_of_ble_eq_true rfl) ⟨Nat.le_of_ble_eq_true rfl, Nat.le_of_ble_eq_true rfl⟩ rfl dX7_tick_26 ⟨Nat.le_refl _, Nat.le_refl _⟩ (fun H locs hw => ?_)
  refine lv_istore_n (lv' := [(1, .int ((sp_X7_steps (upd s 29 ((s 29) + 1)) 0).1)), (2, .int 0), (0, .ref (L 0))]) hx hb dX7_tick_29 rfl hl (by decide) rfl (fun ls hl => ?_)
  refine r_iincN (lv' := [(2, .int 1), (1, .int ((sp_X7_steps (upd s 29 ((s 29) + 1)) 0).1)), (0, .ref (L 0))]) hx hb 0 1 rfl dX7_tick_30 hl (k := 1) rfl rfl (by decide) rfl (fun ls hl => ?_)
  refine lv_goto (tgt := 15) hx hb dX7_tick_33 (by decide) ?_
  refine lv_iload_n hx hb dX7_tick_15 rfl (lv_at hl 0 rfl) ?_
  refine lv_iconst (v := 2) hx hb dX7_tick_16 (by decide) ?_
  refine lv_icmp_gt (tgt := 36) hx hb dX7_tick_17 (by decide) (fun h => absurd h (by decide)) (fun _ => ?_)
  refine lv_iload_n hx hb dX7_tick_20 rfl (lv_at hl 1 rfl) ?_
  refine lv_if_eq (tgt := 36) hx hb dX7_tick_21 (by decide) (fun c4 => ?_) (fun c4 => ?_)
  · skip
    refine lv_iload_n hx hb dX7_tick_36 rfl (lv_at hl 1 rfl) ?_
    refine lv_if_eq (tgt := 76) hx hb dX7_tick_37 (by decide) (fun _ => ?_) (fun h => absurd c4 h)
    exact cut76 ((sp_X7_steps (upd s 29 ((s 29) + 1)) 0).2) (by unfold sp_X7_tick sp_X7_tickR; rw [if_pos c4]) _ _ _ hw (lv_sub hl [2] rfl)
  · skip
    refine lv_aload_n hx hb dX7_tick_24 rfl (lv_at hl 2 rfl) ?_
    refine lv_iload_n hx hb dX7_tick_25 rfl (lv_at hl 0 rfl) ?_
    refine r_callV X hw (ws' := mW D L ((sp_X7_steps ((sp_X7_steps (upd s 29 ((s 29) + 1)) 0).2) 1).2, S2)) (As := [.int 1]) (rest := []) lk_X7_91 (c_X7_steps l D _ L ((sp_X7_steps (upd s 29 ((s 29) + 1)) 0).2) S2 1 (by omega)) Foc.all (m_at 0 rfl) rfl hl.1 (Nat.le_of_ble_eq_true rfl) ⟨Nat.le_of_ble_eq_true rfl, Nat.le_of_ble_eq_true rfl⟩ rfl dX7_tick_26 ⟨Nat.le_refl _, Nat.le_refl _⟩ (fun H locs hw => ?_)
    refine lv_istore_n (lv' := [(1, .int ((sp_X7_steps ((sp_X7_steps (upd s 29 ((s 29) + 1)) 0).2) 1).1)), (2, .int 1), (0, .ref (L 0))]) hx hb dX7_tick_29 rfl hl (by decide) rfl (fun ls hl => ?_)
    refine r_iincN (lv' := [(2, .int 2), (1, .int ((sp_X7_steps ((sp_X7_steps (upd s 29 ((s 29) + 1)) 0).2) 1).1)), (0, .ref (L 0))]) hx hb 1 1 rfl dX7_tick_30 hl (k := 1) rfl rfl (by decide) rfl (fun ls hl => ?_)
    refine lv_goto (tgt := 15) hx hb dX7_tick_33 (by decide) ?_
    refine lv_iload_n hx hb dX7_tick_15 rfl (lv_at hl 0 rfl) ?_
    refine lv_iconst (v := 2) hx hb dX7_tick_16 (by decide) ?_
    refine lv_icmp_gt (tgt := 36) hx hb dX7_tick_17 (by decide) (fun h => absurd h (by decide)) (fun _ => ?_)
    refine lv_iload_n hx hb dX7_tick_20 rfl (lv_at hl 1 rfl) ?_
    refine lv_if_eq (tgt := 36) hx hb dX7_tick_21 (by decide) (fun c5 => ?_) (fun c5 => ?_)
    · skip
      refine lv_iload_n hx hb dX7_tick_36 rfl (lv_at hl 1 rfl) ?_
      refine lv_if_eq (tgt := 76) hx hb dX7_tick_37 (by decide) (fun _ => ?_) (fun h => absurd c5 h)
      exact cut76 ((sp_X7_steps ((sp_X7_steps (upd s 29 ((s 29) + 1)) 0).2) 1).2) (by unfold sp_X7_tick sp_X7_tickR; rw [if_neg c4]; rw [if_pos c5]) _ _ _ hw (lv_sub hl [2] rfl)
    · skip
      refine lv_aload_n hx hb dX7_tick_24 rfl (lv_at hl 2 rfl) ?_
      refine lv_iload_n hx hb dX7_tick_25 rfl (lv_at hl 0 rfl) ?_
      refine r_callV X hw (ws' := mW D L ((sp_X7_steps ((sp_X7_steps ((sp_X7_steps (upd s 29 ((s 29) + 1)) 0).2) 1).2) 2).2, S2)) (As := [.int 2]) (rest := []) lk_X7_91 (c_X7_steps l D _ L ((sp_X7_steps ((sp_X7_steps (upd s 29 ((s 29) + 1)) 0).2) 1).2) S2 2 (by omega)) Foc.all (m_at 0 rfl) rfl hl.1 (Nat.le_of_ble_eq_true rfl) ⟨Nat.le_of_ble_eq_true rfl, Nat.le_of_ble_eq_true rfl⟩ rfl dX7_tick_26 ⟨Nat.le_refl _, Nat.le_refl _⟩ (fun H locs hw => ?_)
      refine lv_istore_n (lv' := [(1, .int ((sp_X7_steps ((sp_X7_steps ((sp_X7_steps (upd s 29 ((s 29) + 1)) 0).2) 1).2) 2).1)), (2, .int 2), (0, .ref (L 0))]) hx hb dX7_tick_29 rfl hl (by decide) rfl (fun ls hl => ?_)
      refine r_iincN (lv' := [(2, .int 3), (1, .int ((sp_X7_steps ((sp_X7_steps ((sp_X7_steps (upd s 29 ((s 29) + 1)) 0).2) 1).2) 2).1)), (0, .ref (L 0))]) hx hb 2 1 rfl dX7_tick_30 hl (k := 1) rfl rfl (by decide) rfl (fun ls hl => ?_)
      refine lv_goto (tgt := 15) hx hb dX7_tick_33 (by decide) ?_
      refine lv_iload_n hx hb dX7_tick_15 rfl (lv_at hl 0 rfl) ?_
      refine lv_iconst (v := 2) hx hb dX7_tick_16 (by decide) ?_
      refine lv_icmp_gt (tgt := 36) hx hb dX7_tick_17 (by decide) (fun _ => ?_) (fun h => absurd (by decide) h)
      refine lv_iload_n hx hb dX7_tick_36 rfl (lv_at hl 1 rfl) ?_
      refine lv_if_eq (tgt := 76) hx hb dX7_tick_37 (by decide) (fun c6 => ?_) (fun c6 => ?_)
      · skip
        exact cut76 ((sp_X7_steps ((sp_X7_steps ((sp_X7_steps (upd s 29 ((s 29) + 1)) 0).2) 1).2) 2).2) (by unfold sp_X7_tick sp_X7_tickR; rw [if_neg c4]; rw [if_neg c5]; rw [if_pos c6]) _ _ _ hw (lv_sub hl [2] rfl)
      · skip
        refine lv_aload_n hx hb dX7_tick_40 rfl (lv_at hl 2 rfl) ?_
        refine lv_iconst (v := 3) hx hb dX7_tick_41 (by decide) ?_
        refine r_callV X hw (ws' := mW D L ((sp_X7_steps ((sp_X7_steps ((sp_X7_steps ((sp_X7_steps (upd s 29 ((s 29) + 1)) 0).2) 1).2) 2).2) 3).2, S2)) (As := [.int 3]) (rest := []) lk_X7_91 (c_X7_steps l D _ L ((sp_X7_steps ((sp_X7_steps ((sp_X7_steps (upd s 29 ((s 29) + 1)) 0).2) 1).2) 2).2) S2 3 (by omega)) Foc.all (m_at 0 rfl) rfl hl.1 (Nat.le_of_ble_eq_true rfl) ⟨Nat.le_of_ble_eq_true rfl, Nat.le_of_ble_eq_true rfl⟩ rfl dX7_tick_42 ⟨Nat.le_refl _, Nat.le_refl _⟩ (fun H locs hw => ?_)
        refine lv_istore_n (lv' := [(2, .int ((sp_X7_steps ((sp_X7_steps ((sp_X7_steps ((sp_X7_steps (upd s 29 ((s 29) + 1)) 0).2) 1).2) 2).2) 3).1)), (1, .int ((sp_X7_steps ((sp_X7_steps ((sp_X7_steps (upd s 29 ((s 29) + 1)) 0).2) 1).2) 2).1)), (0, .ref (L 0))]) hx hb dX7_tick_45 rfl hl (by decide) rfl (fun ls hl => ?_)
        refine lv_aload_n hx hb dX7_tick_46 rfl (lv_at hl 2 rfl) ?_
        refine lv_iconst (v := 4) hx hb dX7_tick_47 (by decide) ?_
        refine r_callV X hw (ws' := mW D L ((sp_X7_steps ((sp_X7_steps ((sp_X7_steps ((sp_X7_steps ((sp_X7_steps (upd s 29 ((s 29) + 1)) 0).2) 1).2) 2).2) 3).2) 4).2, S2)) (As := [.int 4]) (rest := []) lk_X7_91 (c_X7_steps l D _ L ((sp_X7_steps ((sp_X7_steps ((sp_X7_steps ((sp_X7_steps (upd s 29 ((s 29) + 1)) 0).2) 1).2) 2).2) 3).2) S2 4 (by omega)) Foc.all (m_at 0 rfl) rfl hl.1 (Nat.le_of_ble_eq_true rfl) ⟨Nat.le_of_ble_eq_true rfl, Nat.le_of_ble_eq_true rfl⟩ rfl dX7_tick_48 ⟨Nat.le_refl _, Nat.le_refl _⟩ (fun H locs hw => ?_)
        refine lv_istore_n (lv' := [(1, .int ((sp_X7_steps ((sp_X7_steps ((sp_X7_steps ((sp_X7_steps ((sp_X7_steps (upd s 29 ((s 29) + 1)) 0).2) 1).2) 2).2) 3).2) 4).1)), (2, .int ((sp_X7_steps ((sp_X7_steps ((sp_X7_steps ((sp_X7_steps (upd s 29 ((s 29) + 1)) 0).2) 1).2) 2).2) 3).1)), (0, .ref (L 0))]) hx hb dX7_tick_51 rfl hl (by decide) rfl (fun ls hl => ?_)
        refine lv_iconst (v := 5) hx hb dX7_tick_52 (by decide) ?_
        refine lv_istore_n (lv' := [(3, .int 5), (1, .int ((sp_X7_steps ((sp_X7_steps ((sp_X7_steps ((sp_X7_steps ((sp_X7_steps (upd s 29 ((s 29) + 1)) 0).2) 1).2) 2).2) 3).2) 4).1)), (2, .int ((sp_X7_steps ((sp_X7_steps ((sp_X7_steps ((sp_X7_steps (upd s 29 ((s 29) + 1)) 0).2) 1).2) 2).2) 3).1)), (0, .ref (L 0))]) hx hb dX7_tick_53 rfl hl (by decide) rfl (fun ls hl => ?_)
        refine lv_iload_n hx hb dX7_tick_54 rfl (lv_at hl 0 rfl) ?_
        refine lv_bipush (v := 6) hx hb dX7_tick_55 (by decide) ?_
        refine lv_icmp_gt (tgt := 76) hx hb dX7_tick_57 (by decide) (fun h => absurd h (by decide)) (fun _ => ?_)
        refine lv_iload_n hx hb dX7_tick_60 rfl (lv_at hl 1 rfl) ?_
        refine lv_if_eq (tgt := 76) hx hb dX7_tick_61 (by decide) (fun c7 => ?_) (fun c7 => ?_)
        · skip
          exact cut76 ((sp_X7_steps ((sp_X7_steps ((sp_X7_steps ((sp_X7_steps ((sp_X7_steps (upd s 29 ((s 29) + 1)) 0).2) 1).2) 2).2) 3).2) 4).2) (by unfold sp_X7_tick sp_X7_tickR; rw [if_neg c4]; rw [if_neg c5]; rw [if_neg c6]; rw [if_pos c7]) _ _ _ hw (lv_sub hl [3] rfl)
        · skip
          refine lv_aload_n hx hb dX7_tick_64 rfl (lv_at hl 3 rfl) ?_
          refine lv_iload_n hx hb dX7_tick_65 rfl (lv_at hl 0 rfl) ?_
          refine r_callV X hw (ws' := mW D L ((sp_X7_steps ((sp_X7_steps ((sp_X7_steps ((sp_X7_steps ((sp_X7_steps ((sp_X7_steps (upd s 29 ((s 29) + 1)) 0).2) 1).2) 2).2) 3).2) 4).2) 5).2, S2)) (As := [.int 5]) (rest := []) lk_X7_91 (c_X7_steps l D _ L ((sp_X7_steps ((sp_X7_steps ((sp_X7_steps ((sp_X7_steps ((sp_X7_steps (upd s 29 ((s 29) + 1)) 0).2) 1).2) 2).2) 3).2) 4).2) S2 5 (by omega)) Foc.all (m_at 0 rfl) rfl hl.1 (Nat.le_of_ble_eq_true rfl) ⟨Nat.le_of_ble_eq_true rfl, Nat.le_of_ble_eq_true rfl⟩ rfl dX7_tick_66 ⟨Nat.le_refl _, Nat.le_refl _⟩ (fun H locs hw => ?_)
          refine lv_istore_n (lv' := [(1, .int ((sp_X7_steps ((sp_X7_steps ((sp_X7_steps ((sp_X7_steps ((sp_X7_steps ((sp_X7_steps (upd s 29 ((s 29) + 1)) 0).2) 1).2) 2).2) 3).2) 4).2) 5).1)), (3, .int 5), (2, .int ((sp_X7_steps ((sp_X7_steps ((sp_X7_steps ((sp_X7_steps (upd s 29 ((s 29) + 1)) 0).2) 1).2) 2).2) 3).1)), (0, .ref (L 0))]) hx hb dX7_tick_69 rfl hl (by decide) rfl (fun ls hl => ?_)
          refine r_iincN (lv' := [(3, .int 6), (1, .int ((sp_X7_steps ((sp_X7_steps ((sp_X7_steps ((sp_X7_steps ((sp_X7_steps ((sp_X7_steps (upd s 29 ((s 29) + 1)) 0).2) 1).2) 2).2) 3).2) 4).2) 5).1)), (2, .int ((sp_X7_steps ((sp_X7_steps ((sp_X7_steps ((sp_X7_steps (upd s 29 ((s 29) + 1)) 0).2) 1).2) 2).2) 3).1)), (0, .ref (L 0))]) hx hb 5 1 rfl dX7_tick_70 hl (k := 1) rfl rfl (by decide) rfl (fun ls hl => ?_)
          refine lv_goto (tgt := 54) hx hb dX7_tick_73 (by decide) ?_
          refine lv_iload_n hx hb dX7_tick_54 rfl (lv_at hl 0 rfl) ?_
          refine lv_bipush (v := 6) hx hb dX7_tick_55 (by decide) ?_
          refine lv_icmp_gt (tgt := 76) hx hb dX7_tick_57 (by decide) (fun h => absurd h (by decide)) (fun _ => ?_)
          refine lv_iload_n hx hb dX7_tick_60 rfl (lv_at hl 1 rfl) ?_
          refine lv_if_eq (tgt := 76) hx hb dX7_tick_61 (by decide) (fun c8 => ?_) (fun c8 => ?_)
          · skip
            exact cut76 ((sp_X7_steps ((sp_X7_steps ((sp_X7_steps ((sp_X7_steps ((sp_X7_steps ((sp_X7_steps (upd s 29 ((s 29) + 1)) 0).2) 1).2) 2).2) 3).2) 4).2) 5).2) (by unfold sp_X7_tick sp_X7_tickR; rw [if_neg c4]; rw [if_neg c5]; rw [if_neg c6]; rw [if_neg c7]; rw [if_pos c8]) _ _ _ hw (lv_sub hl [3] rfl)
          · skip
            refine lv_aload_n hx hb dX7_tick_64 rfl (lv_at hl 3 rfl) ?_
            refine lv_iload_n hx hb dX7_tick_65 rfl (lv_at hl 0 rfl) ?_
            refine r_callV X hw (ws' := mW D L ((sp_X7_steps ((sp_X7_steps ((sp_X7_steps ((sp_X7_steps ((sp_X7_steps ((sp_X7_steps ((sp_X7_steps (upd s 29 ((s 29) + 1)) 0).2) 1).2) 2).2) 3).2) 4).2) 5).2) 6).2, S2)) (As := [.int 6]) (rest := []) lk_X7_91 (c_X7_steps l D _ L ((sp_X7_steps ((sp_X7_steps ((sp_X7_steps ((sp_X7_steps ((sp_X7_steps ((sp_X7_steps (upd s 29 ((s 29) + 1)) 0).2) 1).2) 2).2) 3).2) 4).2) 5).2) S2 6 (by omega)) Foc.all (m_at 0 rfl) rfl hl.1 (Nat.le_of_ble_eq_true rfl) ⟨Nat.le_of_ble_eq_true rfl, Nat.le_of_ble_eq_true rfl⟩ rfl dX7_tick_66 ⟨Nat.le_refl _, Nat.le_refl _⟩ (fun H locs hw => ?_)
            refine lv_istore_n (lv' := [(1, .int ((sp_X7_steps ((sp_X7_steps ((sp_X7_steps ((sp_X7_steps ((sp_X7_steps ((sp_X7_steps ((sp_X7_steps (upd s 29 ((s 29) + 1)) 0).2) 1).2) 2).2) 3).2) 4).2) 5).2) 6).1)), (3, .int 6), (2, .int ((sp_X7_steps ((sp_X7_steps ((sp_X7_steps ((sp_X7_steps (upd s 29 ((s 29) + 1)) 0).2) 1).2) 2).2) 3).1)), (0, .ref (L 0))]) hx hb dX7_tick_69 rfl hl (by decide) rfl (fun ls hl => ?_)
            refine r_iincN (lv' := [(3, .int 7), (1, .int ((sp_X7_steps ((sp_X7_steps ((sp_X7_steps ((sp_X7_steps ((sp_X7_steps ((sp_X7_steps ((sp_X7_steps (upd s 29 ((s 29) + 1)) 0).2) 1).2) 2).2) 3).2) 4).2) 5).2) 6).1)), (2, .int ((sp_X7_steps ((sp_X7_steps ((sp_X7_steps ((sp_X7_steps (upd s 29 ((s 29) + 1)) 0).2) 1).2) 2).2) 3).1)), (0, .ref (L 0))]) hx hb 6 1 rfl dX7_tick_70 hl (k := 1) rfl rfl (by decide) rfl (fun ls hl => ?_)
            refine lv_goto (tgt := 54) hx hb dX7_tick_73 (by decide) ?_
            refine lv_iload_n hx hb dX7_tick_54 rfl (lv_at hl 0 rfl) ?_
            refine lv_bipush (v := 6) hx hb dX7_tick_55 (by decide) ?_
            refine lv_icmp_gt (tgt := 76) hx hb dX7_tick_57 (by decide) (fun _ => ?_) (fun h => absurd (by decide) h)
            exact cut76 ((sp_X7_steps ((sp_X7_steps ((sp_X7_steps ((sp_X7_steps ((sp_X7_steps ((sp_X7_steps ((sp_X7_steps (upd s 29 ((s 29) + 1)) 0).2) 1).2) 2).2) 3).2) 4).2) 5).2) 6).2) (by unfold sp_X7_tick sp_X7_tickR; rw [if_neg c4]; rw [if_neg c5]; rw [if_neg c6]; rw [if_neg c7]; rw [if_neg c8]) _ _ _ hw (lv_sub hl [3] rfl)

noncomputable def sp_X7_phase (s : Row) : Int32 × Row := (if ((upd (upd s 35 ((s 35) + 1)) 28 (((upd s 35 ((s 35) + 1)) 28) + 1)) 28) = ((upd (upd s 35 ((s 35) + 1)) 28 (((upd s 35 ((s 35) + 1)) 28) + 1)) 39) then (1, sp_X7_tick (upd (upd (upd s 35 ((s 35) + 1)) 28 (((upd s 35 ((s 35) + 1)) 28) + 1)) 28 0)) else (0, upd (upd s 35 ((s 35) + 1)) 28 (((upd s 35 ((s 35) + 1)) 28) + 1)))
set_option maxRecDepth 100000 in
set_option maxHeartbeats 4000000 in
theorem c_X7_phase (l : Launch) (D : va_G) (sz : Nat) (L : Nat → Nat) (s : Row) (S2 : MT) : MI l yX7_phase cX7_phase 2 (some .boolean) 10 217 D sz [.ref (L 0)] (mW D L (s, S2)) ((sp_X7_phase s).1) (mW D L ((sp_X7_phase s).2, S2)) := by
  refine r_enterI (by decide) (Nat.le_of_ble_eq_true rfl) ?_
  intro p e st m args below meth c ls A X hret hk hw hl
  have X : CX D p m c cX7_phase 2 st args RX7 A := X
  have hx := X.1.1
  have hb := X.1.2.1
  have hown := X.1.2.2.2.1
  have hts := X.1.2.2.2.2
  have hl : lv_has ls 2 [(0, .ref (L 0))] := hl
  refine lv_aload_n hx hb dX7_phase_0 rfl (lv_at hl 0 rfl) ?_
  refine r_get X hw (v := .ref (L 1)) fl_X7_7 (m_at 0 rfl) rfl dX7_phase_1 ?_
  refine lv_bipush (v := 35) hx hb dX7_phase_4 (by decide) ?_
  refine lv_dup2_11 hx hb dX7_phase_6 rfl rfl ?_
  refine r_iald X hw (f := s) 35 (m_at 1 rfl) rfl (by decide) (by decide) dX7_phase_7 ?_
  refine lv_iconst (v := 1) hx hb dX7_phase_8 (by decide) ?_
  refine lv_iadd hx hb dX7_phase_9 ?_
  refine r_iast X hw (ws' := mW D L (upd s 35 ((s 35) + 1), S2)) 35 rfl (by decide) (by decide) (Foc.cell 1 rfl rfl rfl) dX7_phase_10 (fun H locs hw => ?_)
  refine lv_aload_n hx hb dX7_phase_11 rfl (lv_at hl 0 rfl) ?_
  refine r_get X hw (v := .ref (L 1)) fl_X7_7 (m_at 0 rfl) rfl dX7_phase_12 ?_
  refine lv_bipush (v := 28) hx hb dX7_phase_15 (by decide) ?_
  refine lv_dup2_11 hx hb dX7_phase_17 rfl rfl ?_
  refine r_iald X hw (f := upd s 35 ((s 35) + 1)) 28 (m_at 1 rfl) rfl (by decide) (by decide) dX7_phase_18 ?_
  refine lv_iconst (v := 1) hx hb dX7_phase_19 (by decide) ?_
  refine lv_iadd hx hb dX7_phase_20 ?_
  refine r_iast X hw (ws' := mW D L (upd (upd s 35 ((s 35) + 1)) 28 (((upd s 35 ((s 35) + 1)) 28) + 1), S2)) 28 rfl (by decide) (by decide) (Foc.cell 1 rfl rfl rfl) dX7_phase_21 (fun H locs hw => ?_)
  refine lv_aload_n hx hb dX7_phase_22 rfl (lv_at hl 0 rfl) ?_
  refine r_get X hw (v := .ref (L 1)) fl_X7_7 (m_at 0 rfl) rfl dX7_phase_23 ?_
  refine lv_bipush (v := 28) hx hb dX7_phase_26 (by decide) ?_
  refine r_iald X hw (f := upd (upd s 35 ((s 35) + 1)) 28 (((upd s 35 ((s 35) + 1)) 28) + 1)) 28 (m_at 1 rfl) rfl (by decide) (by decide) dX7_phase_28 ?_
  refine lv_aload_n hx hb dX7_phase_29 rfl (lv_at hl 0 rfl) ?_
  refine r_get X hw (v := .ref (L 1)) fl_X7_7 (m_at 0 rfl) rfl dX7_phase_30 ?_
  refine lv_bipush (v := 39) hx hb dX7_phase_33 (by decide) ?_
  refine r_iald X hw (f := upd (upd s 35 ((s 35) + 1)) 28 (((upd s 35 ((s 35) + 1)) 28) + 1)) 39 (m_at 1 rfl) rfl (by decide) (by decide) dX7_phase_35 ?_
  refine lv_icmp_ne (tgt := 43) hx hb dX7_phase_36 (by decide) (fun c1 => ?_) (fun c1 => ?_)
  · skip
    refine lv_iconst (v := 0) hx hb dX7_phase_43 (by decide) ?_
    refine lv_istore_n (lv' := [(1, .int 0), (0, .ref (L 0))]) hx hb dX7_phase_44 rfl hl (by decide) rfl (fun ls hl => ?_)
    refine lv_iload_n hx hb dX7_phase_45 rfl (lv_at hl 0 rfl) ?_
    refine lv_if_eq (tgt := 61) hx hb dX7_phase_46 (by decide) (fun _ => ?_) (fun h => absurd (by decide) h)
    refine lv_iload_n hx hb dX7_phase_61 rfl (lv_at hl 0 rfl) ?_
    exact r_ret X hw hk hret rfl (by unfold sp_X7_phase; rw [if_neg c1]) (by unfold sp_X7_phase; rw [if_neg c1]) dX7_phase_62
  · skip
    refine lv_iconst (v := 1) hx hb dX7_phase_39 (by decide) ?_
    refine lv_goto (tgt := 44) hx hb dX7_phase_40 (by decide) ?_
    refine lv_istore_n (lv' := [(1, .int 1), (0, .ref (L 0))]) hx hb dX7_phase_44 rfl hl (by decide) rfl (fun ls hl => ?_)
    refine lv_iload_n hx hb dX7_phase_45 rfl (lv_at hl 0 rfl) ?_
    refine lv_if_eq (tgt := 61) hx hb dX7_phase_46 (by decide) (fun h => absurd h (by decide)) (fun _ => ?_)
    refine lv_aload_n hx hb dX7_phase_49 rfl (lv_at hl 1 rfl) ?_
    refine r_get X hw (v := .ref (L 1)) fl_X7_7 (m_at 0 rfl) rfl dX7_phase_50 ?_
    refine lv_bipush (v := 28) hx hb dX7_phase_53 (by decide) ?_
    refine lv_iconst (v := 0) hx hb dX7_phase_55 (by decide) ?_
    refine r_iast X hw (ws' := mW D L (upd (upd (upd s 35 ((s 35) + 1)) 28 (((upd s 35 ((s 35) + 1)) 28) + 1)) 28 0, S2)) 28 rfl (by decide) (by decide) (Foc.cell 1 rfl rfl rfl) dX7_phase_56 (fun H locs hw => ?_)
    refine lv_aload_n hx hb dX7_phase_57 rfl (lv_at hl 1 rfl) ?_
    refine r_callVv X hw (ws' := mW D L (sp_X7_tick (upd (upd (upd s 35 ((s 35) + 1)) 28 (((upd s 35 ((s 35) + 1)) 28) + 1)) 28 0), S2)) (As := []) (rest := []) lk_X7_97 (c_X7_tick l D _ L (upd (upd (upd s 35 ((s 35) + 1)) 28 (((upd s 35 ((s 35) + 1)) 28) + 1)) 28 0) S2) Foc.all (m_at 0 rfl) rfl hl.1 (Nat.le_of_ble_eq_true rfl) ⟨Nat.le_of_ble_eq_true rfl, Nat.le_of_ble_eq_true rfl⟩ rfl dX7_phase_58 ⟨Nat.le_refl _, Nat.le_refl _⟩ (fun H locs hw => ?_)
    refine lv_iload_n hx hb dX7_phase_61 rfl (lv_at hl 0 rfl) ?_
    exact r_ret X hw hk hret rfl (by unfold sp_X7_phase; rw [if_pos c1]) (by unfold sp_X7_phase; rw [if_pos c1]) dX7_phase_62

/-- phases that pass: what they leave, and the ticks among them -/
noncomputable def phF (s : Row) : Nat → Row
  | 0 => s
  | i + 1 => (sp_X7_phase (phF s i)).2
noncomputable def phN (s : Row) : Nat → Int32
  | 0 => 0
  | i + 1 => phN s i + (if (sp_X7_phase (phF s i)).1 = 0 then 0 else 1)

set_option maxRecDepth 100000 in
set_option maxHeartbeats 4000000 in
theorem c_X7_passes (l : Launch) (D : va_G) (sz : Nat) (L : Nat → Nat) (s : Row) (S2 : MT) (N : Nat) (hN : N < 2147483648) : MI l yX7_passes cX7_passes 4 (some .int) 11 238 D sz [.ref (L 0), .int (nI N)] (mW D L (s, S2)) (phN s N) (mW D L (phF s N, S2)) := by
  refine r_enterI (by decide) (Nat.le_of_ble_eq_true rfl) ?_
  intro p e st m args below meth c ls A X hret hk hw hl
  have X : CX D p m c cX7_passes 4 st args RX7 A := X
  have hx := X.1.1
  have hb := X.1.2.1
  have hown := X.1.2.2.2.1
  have hts := X.1.2.2.2.2
  have hl : lv_has ls 4 [(0, .ref (L 0)), (1, .int (nI N))] := hl
  refine lv_iconst (v := 0) hx hb dX7_passes_0 (by decide) ?_
  refine lv_istore_n (lv' := [(2, .int 0), (0, .ref (L 0)), (1, .int (nI N))]) hx hb dX7_passes_1 rfl hl (by decide) rfl (fun ls hl => ?_)
  refine lv_iconst (v := 0) hx hb dX7_passes_2 (by decide) ?_
  refine lv_istore_n (lv' := [(3, .int 0), (2, .int 0), (0, .ref (L 0)), (1, .int (nI N))]) hx hb dX7_passes_3 rfl hl (by decide) rfl (fun ls hl => ?_)
  have key4 : ∀ (n4 : Nat) (i : Nat) (x : Int32), (i ≤ N) → (N - i < n4) → (x = phN s i) → ∀ (H : Heap) (locs : List Loc) (ls : Array Slot), Wd D A st.heap H locs (mW D L (phF s i, S2)) → lv_has ls 4 [(0, .ref (L 0)), (1, .int (nI N)), (2, .int x), (3, .int (nI i))] → W p l e (rmOf 11 0 0 238) st m args below meth c H locs 0 0 (QI below args st D A (phN s N) (mW D L (phF s N, S2))) (F0 m 4 ls []) := by
    intro n4
    induction n4 with
    | zero => intro i x hi hn hx0; omega
    | succ n4 ih4 =>
      intro i x hi hn hx0 H locs ls hw hl
      refine lv_iload_n hx hb dX7_passes_4 rfl (lv_at hl 3 rfl) ?_
      refine lv_iload_n hx hb dX7_passes_5 rfl (lv_at hl 1 rfl) ?_
      refine r_geN (tgt := 30) hx hb i N rfl rfl (by omega) (by omega) dX7_passes_6 (by decide) (fun c1 => ?_) (fun c1 => ?_)
      · skip
        refine lv_iload_n hx hb dX7_passes_30 rfl (lv_at hl 2 rfl) ?_
        exact r_ret X hw hk hret rfl (by rw [hx0, show i = N from by omega]) (by rw [show i = N from by omega]) dX7_passes_31
      · skip
        refine lv_iload_n hx hb dX7_passes_9 rfl (lv_at hl 2 rfl) ?_
        refine lv_aload_n hx hb dX7_passes_10 rfl (lv_at hl 0 rfl) ?_
        refine r_callV X hw (ws' := mW D L ((sp_X7_phase (phF s i)).2, S2)) (As := []) (rest := [.int x]) lk_X7_100 (c_X7_phase l D _ L (phF s i) S2) Foc.all (m_at 0 rfl) rfl hl.1 (Nat.le_of_ble_eq_true rfl) ⟨Nat.le_of_ble_eq_true rfl, Nat.le_of_ble_eq_true rfl⟩ rfl dX7_passes_11 ⟨Nat.le_refl _, Nat.le_refl _⟩ (fun H locs hw => ?_)
        refine lv_if_eq (tgt := 21) hx hb dX7_passes_14 (by decide) (fun c2 => ?_) (fun c2 => ?_)
        · skip
          refine lv_iconst (v := 0) hx hb dX7_passes_21 (by decide) ?_
          refine lv_iadd hx hb dX7_passes_22 ?_
          refine lv_istore_n (lv' := [(2, .int (x + 0)), (0, .ref (L 0)), (1, .int (nI N)), (3, .int (nI i))]) hx hb dX7_passes_23 rfl hl (by decide) rfl (fun ls hl => ?_)
          refine r_iincN (lv' := [(3, .int (nI (i + 1))), (2, .int (x + 0)), (0, .ref (L 0)), (1, .int (nI N))]) hx hb i 1 rfl dX7_passes_24 hl (k := 3) rfl rfl (by decide) rfl (fun ls hl => ?_)
          refine lv_goto (tgt := 4) hx hb dX7_passes_27 (by decide) ?_
          exact ih4 (i + 1) (x + 0) (by omega) (by omega) (by show _ = phN s i + _; rw [if_pos c2]; rw [hx0]) _ _ _ hw (lv_sub hl [2, 3, 1, 0] rfl)
        · skip
          refine lv_iconst (v := 1) hx hb dX7_passes_17 (by decide) ?_
          refine lv_goto (tgt := 22) hx hb dX7_passes_18 (by decide) ?_
          refine lv_iadd hx hb dX7_passes_22 ?_
          refine lv_istore_n (lv' := [(2, .int (x + 1)), (0, .ref (L 0)), (1, .int (nI N)), (3, .int (nI i))]) hx hb dX7_passes_23 rfl hl (by decide) rfl (fun ls hl => ?_)
          refine r_iincN (lv' := [(3, .int (nI (i + 1))), (2, .int (x + 1)), (0, .ref (L 0)), (1, .int (nI N))]) hx hb i 1 rfl dX7_passes_24 hl (k := 3) rfl rfl (by decide) rfl (fun ls hl => ?_)
          refine lv_goto (tgt := 4) hx hb dX7_passes_27 (by decide) ?_
          exact ih4 (i + 1) (x + 1) (by omega) (by omega) (by show _ = phN s i + _; rw [if_neg c2]; rw [hx0]) _ _ _ hw (lv_sub hl [2, 3, 1, 0] rfl)
  exact key4 (N + 1) 0 0 (by omega) (by omega) rfl _ _ _ hw (lv_sub hl [2, 3, 1, 0] rfl)
end
section
set_option maxRecDepth 100000 in
set_option maxHeartbeats 4000000 in
theorem c_X7_changesR (l : Launch) (D : va_G) (sz : Nat) (L : Nat → Nat) (s pa : Row) (P : Nat) (ru : Int32) (S4 : Row × Row × Row × Int32 × Row × Int32 × Row × Int32 × Int32 × Int32 × Int32 × Int32 × Int32 × Row × Row) (hP : P ≤ 4) (hru : ¬ ru = 0) : MV l yX7_changes cX7_changes 2 0 0 D sz [.ref (L 0)] (mW D L (s, pa, nI P, ru, S4)) (mW D L (s, pa, nI P, ru, S4)) := by
  refine r_enterV (by decide) (Nat.le_of_ble_eq_true rfl) ?_
  intro p e st m args below meth c ls A X hret hk hw hl
  have X : CX D p m c cX7_changes 2 st args RX7 A := X
  have hx := X.1.1
  have hb := X.1.2.1
  have hown := X.1.2.2.2.1
  have hts := X.1.2.2.2.2
  have hl : lv_has ls 2 [(0, .ref (L 0))] := hl
  refine lv_aload_n hx hb dX7_changes_0 rfl (lv_at hl 0 rfl) ?_
  refine r_get X hw (v := .int ru) fl_X7_37 (m_at 0 rfl) rfl dX7_changes_1 ?_
  refine lv_if_eq (tgt := 8) hx hb dX7_changes_4 (by decide) (fun h => absurd h hru) (fun _ => ?_)
  exact r_retV X hw hk hret rfl dX7_changes_7

set_option maxRecDepth 100000 in
set_option maxHeartbeats 4000000 in
theorem c_X7_changes0 (l : Launch) (D : va_G) (sz : Nat) (L : Nat → Nat) (s pa : Row) (P : Nat) (ru : Int32) (S4 : Row × Row × Row × Int32 × Row × Int32 × Row × Int32 × Int32 × Int32 × Int32 × Int32 × Int32 × Row × Row) (hP : P ≤ 4) : MV l yX7_changes cX7_changes 2 0 0 D sz [.ref (L 0)] (mW D L (s, pa, nI P, 0, S4)) (mW D L (s, (pushR s pa P).1, nI (pushR s pa P).2, 0, S4)) := by
  refine r_enterV (by decide) (Nat.le_of_ble_eq_true rfl) ?_
  intro p e st m args below meth c ls A X hret hk hw hl
  have X : CX D p m c cX7_changes 2 st args RX7 A := X
  have hx := X.1.1
  have hb := X.1.2.1
  have hown := X.1.2.2.2.1
  have hts := X.1.2.2.2.2
  have hl : lv_has ls 2 [(0, .ref (L 0))] := hl
  have key58 : ∀ (n58 : Nat) (pa1 : Row) (P1 i : Nat), (P1 ≤ 3) → (pushR s pa P = (va_cpy s pa1 0 (127 * P1) 127, P1 + 1)) → (i ≤ 127) → (127 - i < n58) → ∀ (H : Heap) (locs : List Loc) (ls : Array Slot), Wd D A st.heap H locs (mW D L (s, va_cpy s pa1 0 (127 * P1) i, nI P1, 0, S4)) → lv_has ls 2 [(0, .ref (L 0)), (1, .int (nI i))] → W p l e (rmOf 0 0 0 0) st m args below meth c H locs 0 0 (QV below args st D A (mW D L (s, (pushR s pa P).1, nI (pushR s pa P).2, 0, S4))) (F0 m 58 ls []) := by
    intro n58
    induction n58 with
    | zero => intro pa1 P1 i hP1 hq hi hn; omega
    | succ n58 ih58 =>
      intro pa1 P1 i hP1 hq hi hn H locs ls hw hl
      refine lv_iload_n hx hb dX7_changes_58 rfl (lv_at hl 1 rfl) ?_
      refine lv_bipush (v := 127) hx hb dX7_changes_59 (by decide) ?_
      refine r_geN (tgt := 90) hx hb i 127 rfl rfl (by omega) (by omega) dX7_changes_61 (by decide) (fun c1 => ?_) (fun c1 => ?_)
      · skip
        refine lv_aload_n hx hb dX7_changes_90 rfl (lv_at hl 0 rfl) ?_
        refine lv_dup hx hb dX7_changes_91 rfl ?_
        refine r_get X hw (v := .int (nI P1)) fl_X7_41 (m_at 0 rfl) rfl dX7_changes_92 ?_
        refine lv_iconst (v := 1) hx hb dX7_changes_95 (by decide) ?_
        refine r_addN hx hb P1 1 rfl rfl dX7_changes_96 ?_
        refine r_puti X hw (ws' := mW D L (s, va_cpy s pa1 0 (127 * P1) i, nI (P1 + 1), 0, S4)) fp_X7_41 (Nat.le_of_ble_eq_true rfl) (Foc.cell 0 rfl rfl rfl) dX7_changes_97 (fun H locs hw => ?_)
        exact r_retV X hw hk hret (by rw [hq, show i = 127 from by omega]) dX7_changes_100
      · skip
        refine lv_aload_n hx hb dX7_changes_64 rfl (lv_at hl 0 rfl) ?_
        refine r_get X hw (v := .ref (L 2)) fl_X7_13 (m_at 0 rfl) rfl dX7_changes_65 ?_
        refine lv_bipush (v := 127) hx hb dX7_changes_68 (by decide) ?_
        refine lv_aload_n hx hb dX7_changes_70 rfl (lv_at hl 0 rfl) ?_
        refine r_get X hw (v := .int (nI P1)) fl_X7_41 (m_at 0 rfl) rfl dX7_changes_71 ?_
        refine r_mulN hx hb 127 P1 rfl rfl dX7_changes_74 ?_
        refine lv_iload_n hx hb dX7_changes_75 rfl (lv_at hl 1 rfl) ?_
        refine r_addN hx hb (127 * P1) i rfl rfl dX7_changes_76 ?_
        refine lv_aload_n hx hb dX7_changes_77 rfl (lv_at hl 0 rfl) ?_
        refine r_get X hw (v := .ref (L 1)) fl_X7_7 (m_at 0 rfl) rfl dX7_changes_78 ?_
        refine lv_iload_n hx hb dX7_changes_81 rfl (lv_at hl 1 rfl) ?_
        refine r_iald X hw (f := s) i (m_at 1 rfl) rfl (by omega) (by decide) dX7_changes_82 ?_
        refine r_iast X hw (ws' := mW D L (s, upd (va_cpy s pa1 0 (127 * P1) i) (127 * P1 + i) (s i), nI P1, 0, S4)) (127 * P1 + i) rfl (by omega) (by decide) (Foc.cell 2 rfl rfl rfl) dX7_changes_83 (fun H locs hw => ?_)
        refine r_iincN (lv' := [(1, .int (nI (i + 1))), (0, .ref (L 0))]) hx hb i 1 rfl dX7_changes_84 hl (k := 1) rfl rfl (by decide) rfl (fun ls hl => ?_)
        refine lv_goto (tgt := 58) hx hb dX7_changes_87 (by decide) ?_
        exact ih58 pa1 P1 (i + 1) hP1 hq (by omega) (by omega) _ _ _ (by rw [← cpy_step0]; exact hw) (lv_sub hl [1, 0] rfl)
  refine lv_aload_n hx hb dX7_changes_0 rfl (lv_at hl 0 rfl) ?_
  refine r_get X hw (v := .int 0) fl_X7_37 (m_at 0 rfl) rfl dX7_changes_1 ?_
  refine lv_if_eq (tgt := 8) hx hb dX7_changes_4 (by decide) (fun _ => ?_) (fun h => absurd (by decide) h)
  refine lv_aload_n hx hb dX7_changes_8 rfl (lv_at hl 0 rfl) ?_
  refine r_get X hw (v := .int (nI P)) fl_X7_41 (m_at 0 rfl) rfl dX7_changes_9 ?_
  refine lv_iconst (v := 4) hx hb dX7_changes_12 (by decide) ?_
  refine r_neN (tgt := 56) hx hb P 4 rfl rfl (by omega) (by omega) dX7_changes_13 (by decide) (fun c2 => ?_) (fun c2 => ?_)
  · skip
    refine lv_iconst (v := 0) hx hb dX7_changes_56 (by decide) ?_
    refine lv_istore_n (lv' := [(1, .int 0), (0, .ref (L 0))]) hx hb dX7_changes_57 rfl hl (by decide) rfl (fun ls hl => ?_)
    exact key58 128 pa P 0 (by omega) (by unfold pushR; rw [if_neg c2]) (by omega) (by omega) _ _ _ (by rw [cpy_0]; exact hw) (lv_sub hl [1, 0] rfl)
  · skip
    refine lv_iconst (v := 0) hx hb dX7_changes_16 (by decide) ?_
    refine lv_istore_n (lv' := [(1, .int 0), (0, .ref (L 0))]) hx hb dX7_changes_17 rfl hl (by decide) rfl (fun ls hl => ?_)
    have key18 : ∀ (n18 : Nat) (i : Nat), (i ≤ 381) → (381 - i < n18) → ∀ (H : Heap) (locs : List Loc) (ls : Array Slot), Wd D A st.heap H locs (mW D L (s, va_cpy pa pa 127 0 i, nI P, 0, S4)) → lv_has ls 2 [(0, .ref (L 0)), (1, .int (nI i))] → W p l e (rmOf 0 0 0 0) st m args below meth c H locs 0 0 (QV below args st D A (mW D L (s, (pushR s pa P).1, nI (pushR s pa P).2, 0, S4))) (F0 m 18 ls []) := by
      intro n18
      induction n18 with
      | zero => intro i hi hn; omega
      | succ n18 ih18 =>
        intro i hi hn H locs ls hw hl
        refine lv_iload_n hx hb dX7_changes_18 rfl (lv_at hl 1 rfl) ?_
        refine lv_sipush (v := 381) hx hb dX7_changes_19 (by decide) ?_
        refine r_geN (tgt := 46) hx hb i 381 rfl rfl (by omega) (by omega) dX7_changes_22 (by decide) (fun c3 => ?_) (fun c3 => ?_)
        · skip
          refine lv_aload_n hx hb dX7_changes_46 rfl (lv_at hl 0 rfl) ?_
          refine lv_dup hx hb dX7_changes_47 rfl ?_
          refine r_get X hw (v := .int (nI P)) fl_X7_41 (m_at 0 rfl) rfl dX7_changes_48 ?_
          refine lv_iconst (v := 1) hx hb dX7_changes_51 (by decide) ?_
          refine r_subN hx hb P 1 rfl rfl (by omega) dX7_changes_52 ?_
          refine r_puti X hw (ws' := mW D L (s, va_cpy pa pa 127 0 i, nI (P - 1), 0, S4)) fp_X7_41 (Nat.le_of_ble_eq_true rfl) (Foc.cell 0 rfl rfl rfl) dX7_changes_53 (fun H locs hw => ?_)
          refine lv_iconst (v := 0) hx hb dX7_changes_56 (by decide) ?_
          refine lv_istore_n (lv' := [(1, .int 0), (0, .ref (L 0))]) hx hb dX7_changes_57 rfl hl (by decide) rfl (fun ls hl => ?_)
          exact key58 128 (va_cpy pa pa 127 0 i) (P - 1) 0 (by omega) (by unfold pushR; rw [if_pos c2]; rw [show i = 381 from by omega, show P - 1 = 3 from by omega]) (by omega) (by omega) _ _ _ (by rw [cpy_0]; exact hw) (lv_sub hl [1, 0] rfl)
        · skip
          refine lv_aload_n hx hb dX7_changes_25 rfl (lv_at hl 0 rfl) ?_
          refine r_get X hw (v := .ref (L 2)) fl_X7_13 (m_at 0 rfl) rfl dX7_changes_26 ?_
          refine lv_iload_n hx hb dX7_changes_29 rfl (lv_at hl 1 rfl) ?_
          refine lv_aload_n hx hb dX7_changes_30 rfl (lv_at hl 0 rfl) ?_
          refine r_get X hw (v := .ref (L 2)) fl_X7_13 (m_at 0 rfl) rfl dX7_changes_31 ?_
          refine lv_iload_n hx hb dX7_changes_34 rfl (lv_at hl 1 rfl) ?_
          refine lv_bipush (v := 127) hx hb dX7_changes_35 (by decide) ?_
          refine r_addN hx hb i 127 rfl rfl dX7_changes_37 ?_
          refine r_iald X hw (f := va_cpy pa pa 127 0 i) (i + 127) (m_at 2 rfl) rfl (by omega) (by decide) dX7_changes_38 ?_
          refine r_iast X hw (ws' := mW D L (s, upd (va_cpy pa pa 127 0 i) i ((va_cpy pa pa 127 0 i) (i + 127)), nI P, 0, S4)) i rfl (by omega) (by decide) (Foc.cell 2 rfl rfl rfl) dX7_changes_39 (fun H locs hw => ?_)
          refine r_iincN (lv' := [(1, .int (nI (i + 1))), (0, .ref (L 0))]) hx hb i 1 rfl dX7_changes_40 hl (k := 1) rfl rfl (by decide) rfl (fun ls hl => ?_)
          refine lv_goto (tgt := 18) hx hb dX7_changes_43 (by decide) ?_
          exact ih18 (i + 1) (by omega) (by omega) _ _ _ (by rw [← shift_step]; exact hw) (lv_sub hl [1, 0] rfl)
    exact key18 382 0 (by omega) (by omega) _ _ _ (by rw [cpy_0]; exact hw) (lv_sub hl [1, 0] rfl)
end
section
/-! which numbers of its row the reference leaves as they were -/
theorem puts_ne (s : Row) (r : Nat) (v : Int32) {j : Nat} (h : j ≠ 0 + r) : sp_X7_puts s r v j = s j := by
  unfold sp_X7_puts
  exact upd_ne _ _ h
theorem steps_ne (s : Row) (r : Nat) {j : Nat} (h : j ≠ 0 + r) (h2 : j ≠ 21 + r) : (sp_X7_steps s r).2 j = s j := by
  unfold sp_X7_steps
  split <;> exact (upd_ne _ _ h2).trans (puts_ne _ _ _ h)
theorem tickR_ne (s : Row) {j : Nat} (h : 7 ≤ j) (h2 : j < 21 ∨ 28 ≤ j) (h3 : j ≠ 29) : sp_X7_tickR s j = s j := by
  unfold sp_X7_tickR
  (repeat' split) <;> simp (disch := omega) only [steps_ne, upd_ne]
theorem alStep_ne (s : Row) (a : Nat) {j : Nat} (h : j ≠ 30) (h1 : j ≠ 40 + 9 * a + 7) (h2 : j ≠ 40 + 9 * a + 8) : alStep s a j = s j := by
  unfold alStep
  (repeat' split) <;> simp (disch := omega) only [upd_ne]
theorem alF_ne (s : Row) {j : Nat} (h : j ≠ 30) (h1 : ∀ a, a < 3 → j ≠ 40 + 9 * a + 7 ∧ j ≠ 40 + 9 * a + 8) : ∀ i, i ≤ 3 → alF s i j = s j
  | 0, _ => rfl
  | i + 1, hi => (alStep_ne _ i h (h1 i (by omega)).1 (h1 i (by omega)).2).trans (alF_ne s h h1 i (by omega))
theorem tick_ne (s : Row) {j : Nat} (h : 7 ≤ j) (h2 : j < 21 ∨ 28 ≤ j) (h3 : j ≠ 29) (h4 : j ≠ 30) (h5 : ∀ a, a < 3 → j ≠ 40 + 9 * a + 7 ∧ j ≠ 40 + 9 * a + 8) : sp_X7_tick s j = s j := by
  unfold sp_X7_tick
  rw [alF_ne _ h4 h5 3 (Nat.le_refl 3)]
  exact tickR_ne s h h2 h3
theorem phase_ne (s : Row) {j : Nat} (h : 7 ≤ j) (h2 : j < 21 ∨ 28 ≤ j) (h3 : j ≠ 29) (h4 : j ≠ 30) (h5 : ∀ a, a < 3 → j ≠ 40 + 9 * a + 7 ∧ j ≠ 40 + 9 * a + 8) (h6 : j ≠ 28) (h7 : j ≠ 35) : (sp_X7_phase s).2 j = s j := by
  unfold sp_X7_phase
  split
  · dsimp only
    rw [tick_ne _ h h2 h3 h4 h5]
    simp (disch := omega) only [upd_ne]
  · simp (disch := omega) only [upd_ne]
theorem phase_set (s : Row) {j : Nat} (h : 37 ≤ j) (h2 : j < 40) : (sp_X7_phase s).2 j = s j := phase_ne s (by omega) (by omega) (by omega) (by omega) (fun a ha => by omega) (by omega) (by omega)
theorem phF_set (s : Row) {j : Nat} (h : 37 ≤ j) (h2 : j < 40) : ∀ i, phF s i j = s j
  | 0 => rfl
  | i + 1 => (phase_set _ h h2).trans (phF_set s h h2 i)
/-- the phase of now, before and behind a phase -/
theorem phase_28 {s : Row} {p z : Nat} (hp : s 28 = nI p) (hz : s 39 = nI z) (h : p < z) (h2 : z < 65536) : ((sp_X7_phase s).1 = 0 ∧ (sp_X7_phase s).2 28 = nI (p + 1) ∧ p + 1 < z) ∨ ((sp_X7_phase s).1 = 1 ∧ (sp_X7_phase s).2 28 = nI 0 ∧ p + 1 = z) := by
  have e1 : (upd (upd s 35 (s 35 + 1)) 28 ((upd s 35 (s 35 + 1)) 28 + 1)) 28 = nI (p + 1) := by
    rw [upd_eq, upd_ne _ _ (by decide), hp]
    exact nI_1 p
  have e2 : (upd (upd s 35 (s 35 + 1)) 28 ((upd s 35 (s 35 + 1)) 28 + 1)) 39 = nI z := by
    rw [upd_ne _ _ (by decide), upd_ne _ _ (by decide), hz]
  unfold sp_X7_phase
  by_cases hc : p + 1 = z
  · right
    rw [if_pos (by rw [e1, e2, hc])]
    refine ⟨rfl, ?_, hc⟩
    dsimp only
    rw [tick_ne _ (by decide) (by decide) (by decide) (by decide) (fun a ha => by omega), upd_eq]
    rfl
  · left
    have hn : ¬ (upd (upd s 35 (s 35 + 1)) 28 ((upd s 35 (s 35 + 1)) 28 + 1)) 28 = (upd (upd s 35 (s 35 + 1)) 28 ((upd s 35 (s 35 + 1)) 28 + 1)) 39 := by
      rw [e1, e2]
      exact fun q => hc ((nI_eq (by omega) (by omega)).mp q)
    rw [if_neg hn]
    refine ⟨rfl, ?_, by omega⟩
    dsimp only
    exact e1
theorem in_ok (k N : Nat) (h : k ≤ N) (hN : N < 2147483648) : ¬ sp_X7_in (nI k) 0 (nI N) = 0 := by
  unfold sp_X7_in
  rw [if_neg (nI_pos (by omega)), if_neg (fun q => absurd ((nI_ltI (by omega) (by omega)).mp q) (by omega))]
  decide
theorem in_okL (k l N : Nat) (hl : l ≤ k) (h : k ≤ N) (hN : N < 2147483648) : ¬ sp_X7_in (nI k) (nI l) (nI N) = 0 := by
  unfold sp_X7_in
  rw [if_neg (fun q => absurd ((nI_ltI (by omega) (by omega)).mp q) (by omega)), if_neg (fun q => absurd ((nI_ltI (by omega) (by omega)).mp q) (by omega))]
  decide
theorem in_iff (x : Int32) (N : Nat) (hN : N < 2147483648) : ¬ sp_X7_in x 0 (nI N) = 0 ↔ ∃ k, k < N + 1 ∧ x = nI k := by
  constructor
  · intro h
    unfold sp_X7_in at h
    by_cases h1 : x < 0
    · rw [if_pos h1] at h; exact absurd rfl h
    · rw [if_neg h1] at h
      by_cases h2 : nI N < x
      · rw [if_pos h2] at h; exact absurd rfl h
      · obtain ⟨j, hj, e⟩ := nI_of h1
        subst e
        exact ⟨j, by
          have := (not_congr (nI_ltI hN hj)).mp h2
          omega, rfl⟩
  · rintro ⟨k, hk, rfl⟩
    exact in_ok k N (by omega) hN
theorem isReg_ok {r : Nat} (h : r < 7) : ¬ sp_X7_isRegister (nI r) = 0 := in_ok r 6 (by omega) (by decide)
theorem isAl_ok {a : Nat} (h : a < 3) : ¬ sp_X7_isAlarm (nI a) = 0 := in_ok a 2 (by omega) (by decide)
end
section
/-! a burst of the reference: register by register -/
abbrev MT8 : Type := Row × Int32 × Row × Int32 × Int32 × Int32 × Int32 × Int32 × Int32 × Row × Row
/-- a phase within a burst, at the k-th register: the row, what was shown, how often -/
noncomputable def rdPh (k : Nat) (y : Row × Row × Nat) : Row × Row × Nat := if (sp_X7_phase y.1).1 = 0 then ((sp_X7_phase y.1).2, y.2.1, y.2.2) else (if 6 ≤ k then ((sp_X7_phase y.1).2, y.2.1, y.2.2) else ((sp_X7_phase y.1).2, va_cpy (sp_X7_phase y.1).2 y.2.1 0 (7 * y.2.2) 7, y.2.2 + 1))
noncomputable def rdIn (k : Nat) (x : Row × Row × Nat) : Nat → Row × Row × Nat
  | 0 => x
  | f + 1 => rdPh k (rdIn k x f)
/-- the row, what is told, what was shown, how often, behind k registers -/
noncomputable def rdK (s td sh : Row) (q : Nat) : Nat → Row × Row × Row × Nat
  | 0 => (s, td, va_cpy s sh 0 (7 * 0) 7, 1)
  | k + 1 => ((rdIn k ((rdK s td sh q k).1, (rdK s td sh q k).2.2.1, (rdK s td sh q k).2.2.2) q).1, upd (rdK s td sh q k).2.1 (if (rdK s td sh q k).1 38 = 0 then k else 6 - k) ((rdK s td sh q k).1 (0 + (if (rdK s td sh q k).1 38 = 0 then k else 6 - k))), (rdIn k ((rdK s td sh q k).1, (rdK s td sh q k).2.2.1, (rdK s td sh q k).2.2.2) q).2.1, (rdIn k ((rdK s td sh q k).1, (rdK s td sh q k).2.2.1, (rdK s td sh q k).2.2.2) q).2.2)
/-- what a burst needs of the row: the phase below the second, the settings in their ranges -/
def rOK (s : Row) (p z q : Nat) : Prop := s 28 = nI p ∧ s 39 = nI z ∧ s 37 = nI q ∧ p < z ∧ 4 ≤ z ∧ z ≤ 60 ∧ q ≤ 8
theorem phase_ok {s : Row} {p z q : Nat} (h : rOK s p z q) : ((sp_X7_phase s).1 = 0 ∧ rOK (sp_X7_phase s).2 (p + 1) z q) ∨ ((sp_X7_phase s).1 = 1 ∧ rOK (sp_X7_phase s).2 0 z q ∧ p + 1 = z) := by
  obtain ⟨h1, h2, h3, h4, h5, h6, h7⟩ := h
  rcases phase_28 h1 h2 h4 (by omega) with ⟨g1, g2, g3⟩ | ⟨g1, g2, g3⟩
  · exact Or.inl ⟨g1, g2, (phase_set s (by decide) (by decide)).trans h2, (phase_set s (by decide) (by decide)).trans h3, g3, h5, h6, h7⟩
  · exact Or.inr ⟨g1, ⟨g2, (phase_set s (by decide) (by decide)).trans h2, (phase_set s (by decide) (by decide)).trans h3, by omega, h5, h6, h7⟩, g3⟩
theorem rdIn_ok {k : Nat} {x : Row × Row × Nat} {p z q : Nat} (h : rOK x.1 p z q) (hn : 1 ≤ x.2.2) : ∀ f, ∃ p', rOK (rdIn k x f).1 p' z q ∧ 1 ≤ (rdIn k x f).2.2 ∧ (k < 6 → ((rdIn k x f).2.2 - 1) * z + p' = (x.2.2 - 1) * z + p + f) ∧ (6 ≤ k → (rdIn k x f).2.2 = x.2.2)
  | 0 => ⟨p, h, hn, fun _ => rfl, fun _ => rfl⟩
  | f + 1 => by
    obtain ⟨p', g1, g2, g3, g4⟩ := rdIn_ok h hn f
    show ∃ p', rOK (rdPh k (rdIn k x f)).1 p' z q ∧ _
    rcases phase_ok g1 with ⟨e1, e2⟩ | ⟨e1, e2, e3⟩
    · refine ⟨p' + 1, ?_⟩
      have e : rdIn k x (f + 1) = ((sp_X7_phase (rdIn k x f).1).2, (rdIn k x f).2.1, (rdIn k x f).2.2) := by
        show rdPh k _ = _
        unfold rdPh
        rw [if_pos e1]
      rw [show rdPh k (rdIn k x f) = rdIn k x (f + 1) from rfl, e]
      exact ⟨e2, g2, fun hk => by have := g3 hk; dsimp only; omega, fun hk => g4 hk⟩
    · refine ⟨0, ?_⟩
      have en : ¬ (sp_X7_phase (rdIn k x f).1).1 = 0 := by rw [e1]; decide
      by_cases hk : 6 ≤ k
      · have e : rdIn k x (f + 1) = ((sp_X7_phase (rdIn k x f).1).2, (rdIn k x f).2.1, (rdIn k x f).2.2) := by
          show rdPh k _ = _
          unfold rdPh
          rw [if_neg en, if_pos hk]
        rw [show rdPh k (rdIn k x f) = rdIn k x (f + 1) from rfl, e]
        exact ⟨e2, g2, fun h => absurd h (by omega), fun hk => g4 hk⟩
      · have e : rdIn k x (f + 1) = ((sp_X7_phase (rdIn k x f).1).2, va_cpy (sp_X7_phase (rdIn k x f).1).2 (rdIn k x f).2.1 0 (7 * (rdIn k x f).2.2) 7, (rdIn k x f).2.2 + 1) := by
          show rdPh k _ = _
          unfold rdPh
          rw [if_neg en, if_neg hk]
        rw [show rdPh k (rdIn k x f) = rdIn k x (f + 1) from rfl, e]
        refine ⟨e2, Nat.le_add_left _ _, fun h => ?_, fun h => absurd h hk⟩
        have := g3 h
        dsimp only
        obtain ⟨m, hm⟩ : ∃ m, (rdIn k x f).2.2 = m + 1 := ⟨(rdIn k x f).2.2 - 1, by omega⟩
        rw [hm] at this ⊢
        rw [show m + 1 + 1 - 1 = m + 1 from rfl, Nat.succ_mul]
        rw [show m + 1 - 1 = m from rfl] at this
        omega
theorem n_bound {m z p p0 t : Nat} (h : m * z + p = p0 + t) (h0 : p0 < z) (hz : 4 ≤ z) (ht : t ≤ 48) : m ≤ 12 := by
  rcases Nat.lt_or_ge 12 m with q | q
  · have := Nat.mul_le_mul_right z q
    omega
  · exact q
theorem rdK_ok {s td sh : Row} {p z q : Nat} (h : rOK s p z q) : ∀ k, k ≤ 7 → ∃ p', rOK (rdK s td sh q k).1 p' z q ∧ 1 ≤ (rdK s td sh q k).2.2.2 ∧ (k ≤ 6 → ((rdK s td sh q k).2.2.2 - 1) * z + p' = p + k * q) ∧ (rdK s td sh q k).2.2.2 ≤ 13
  | 0, _ => ⟨p, h, Nat.le_refl 1, fun _ => by show (1 - 1) * z + p = p + 0 * q; omega, by show 1 ≤ 13; decide⟩
  | k + 1, hk => by
    obtain ⟨p', g1, g2, g3, g4⟩ := rdK_ok (td := td) (sh := sh) h k (by omega)
    obtain ⟨p2, f1, f2, f3, f4⟩ := rdIn_ok (k := k) (x := ((rdK s td sh q k).1, (rdK s td sh q k).2.2.1, (rdK s td sh q k).2.2.2)) g1 g2 q
    have hq := h.2.2.2.2.2.2
    refine ⟨p2, f1, f2, fun h6 => ?_, ?_⟩
    · have e1 := f3 (by omega)
      have e2 := g3 (by omega)
      have e3 : (rdK s td sh q (k + 1)).2.2.2 = (rdIn k ((rdK s td sh q k).1, (rdK s td sh q k).2.2.1, (rdK s td sh q k).2.2.2) q).2.2 := rfl
      rw [e3, Nat.succ_mul]
      dsimp only at e1
      omega
    · have e3 : (rdK s td sh q (k + 1)).2.2.2 = (rdIn k ((rdK s td sh q k).1, (rdK s td sh q k).2.2.1, (rdK s td sh q k).2.2.2) q).2.2 := rfl
      rw [e3]
      rcases Nat.lt_or_ge k 6 with h6 | h6
      · have e1 := f3 h6
        have e2 := g3 (by omega)
        have hkq : k * q ≤ 5 * 8 := Nat.mul_le_mul (by omega) hq
        dsimp only at e1
        have := n_bound (t := k * q + q) (p0 := p) (by rw [e1, e2]; omega) h.2.2.2.1 h.2.2.2.2.1 (by omega)
        omega
      · rw [f4 h6]
        exact g4
/-- within the k-th register -/
theorem rdIn_b {s td sh : Row} {p z q : Nat} (h : rOK s p z q) {k : Nat} (hk : k < 7) {f : Nat} (hf : f ≤ q) : ∃ p', rOK (rdIn k ((rdK s td sh q k).1, (rdK s td sh q k).2.2.1, (rdK s td sh q k).2.2.2) f).1 p' z q ∧ (rdIn k ((rdK s td sh q k).1, (rdK s td sh q k).2.2.1, (rdK s td sh q k).2.2.2) f).2.2 ≤ 13 := by
  obtain ⟨p', g1, g2, g3, g4⟩ := rdK_ok (td := td) (sh := sh) h k (by omega)
  obtain ⟨p2, f1, f2, f3, f4⟩ := rdIn_ok (k := k) (x := ((rdK s td sh q k).1, (rdK s td sh q k).2.2.1, (rdK s td sh q k).2.2.2)) g1 g2 f
  have hq := h.2.2.2.2.2.2
  refine ⟨p2, f1, ?_⟩
  rcases Nat.lt_or_ge k 6 with h6 | h6
  · have e1 := f3 h6
    have e2 := g3 (by omega)
    have hkq : k * q ≤ 5 * 8 := Nat.mul_le_mul (by omega) hq
    dsimp only at e1
    have := n_bound (t := k * q + f) (p0 := p) (by rw [e1, e2]; omega) h.2.2.2.1 h.2.2.2.2.1 (by omega)
    omega
  · rw [f4 h6]
    exact g4

set_option maxRecDepth 100000 in
set_option maxHeartbeats 4000000 in
theorem c_X7_shows (l : Launch) (D : va_G) (sz : Nat) (L : Nat → Nat) (s pa : Row) (P ru : Int32) (td ah sh : Row) (n : Nat) (S8 : MT8) (hn : n ≤ 14) : MV l yX7_shows cX7_shows 2 0 0 D sz [.ref (L 0)] (mW D L (s, pa, P, ru, td, ah, sh, nI n, S8)) (mW D L (s, pa, P, ru, td, ah, va_cpy s sh 0 (7 * n) 7, nI (n + 1), S8)) := by
  refine r_enterV (by decide) (Nat.le_of_ble_eq_true rfl) ?_
  intro p e st m args below meth c ls A X hret hk hw hl
  have X : CX D p m c cX7_shows 2 st args RX7 A := X
  have hx := X.1.1
  have hb := X.1.2.1
  have hown := X.1.2.2.2.1
  have hts := X.1.2.2.2.2
  have hl : lv_has ls 2 [(0, .ref (L 0))] := hl
  refine lv_iconst (v := 0) hx hb dX7_shows_0 (by decide) ?_
  refine lv_istore_n (lv' := [(1, .int 0), (0, .ref (L 0))]) hx hb dX7_shows_1 rfl hl (by decide) rfl (fun ls hl => ?_)
  have key2 : ∀ (n2 : Nat) (i : Nat), (i ≤ 7) → (7 - i < n2) → ∀ (H : Heap) (locs : List Loc) (ls : Array Slot), Wd D A st.heap H locs (mW D L (s, pa, P, ru, td, ah, va_cpy s sh 0 (7 * n) i, nI n, S8)) → lv_has ls 2 [(0, .ref (L 0)), (1, .int (nI i))] → W p l e (rmOf 0 0 0 0) st m args below meth c H locs 0 0 (QV below args st D A (mW D L (s, pa, P, ru, td, ah, va_cpy s sh 0 (7 * n) 7, nI (n + 1), S8))) (F0 m 2 ls []) := by
    intro n2
    induction n2 with
    | zero => intro i hi hm; omega
    | succ n2 ih2 =>
      intro i hi hm H locs ls hw hl
      refine lv_iload_n hx hb dX7_shows_2 rfl (lv_at hl 1 rfl) ?_
      refine lv_bipush (v := 7) hx hb dX7_shows_3 (by decide) ?_
      refine r_geN (tgt := 36) hx hb i 7 rfl rfl (by omega) (by omega) dX7_shows_5 (by decide) (fun c1 => ?_) (fun c1 => ?_)
      · skip
        refine lv_aload_n hx hb dX7_shows_36 rfl (lv_at hl 0 rfl) ?_
        refine lv_dup hx hb dX7_shows_37 rfl ?_
        refine r_get X hw (v := .int (nI n)) fl_X7_114 (m_at 0 rfl) rfl dX7_shows_38 ?_
        refine lv_iconst (v := 1) hx hb dX7_shows_41 (by decide) ?_
        refine r_addN hx hb n 1 rfl rfl dX7_shows_42 ?_
        refine r_puti X hw (ws' := mW D L (s, pa, P, ru, td, ah, va_cpy s sh 0 (7 * n) i, nI (n + 1), S8)) fp_X7_114 (Nat.le_of_ble_eq_true rfl) (Foc.cell 0 rfl rfl rfl) dX7_shows_43 (fun H locs hw => ?_)
        exact r_retV X hw hk hret (by rw [show i = 7 from by omega]) dX7_shows_46
      · skip
        refine lv_aload_n hx hb dX7_shows_8 rfl (lv_at hl 0 rfl) ?_
        refine r_get X hw (v := .ref (L 8)) fl_X7_31 (m_at 0 rfl) rfl dX7_shows_9 ?_
        refine lv_bipush (v := 7) hx hb dX7_shows_12 (by decide) ?_
        refine lv_aload_n hx hb dX7_shows_14 rfl (lv_at hl 0 rfl) ?_
        refine r_get X hw (v := .int (nI n)) fl_X7_114 (m_at 0 rfl) rfl dX7_shows_15 ?_
        refine r_mulN hx hb 7 n rfl rfl dX7_shows_18 ?_
        refine lv_iload_n hx hb dX7_shows_19 rfl (lv_at hl 1 rfl) ?_
        refine r_addN hx hb (7 * n) i rfl rfl dX7_shows_20 ?_
        refine lv_aload_n hx hb dX7_shows_21 rfl (lv_at hl 0 rfl) ?_
        refine r_get X hw (v := .ref (L 1)) fl_X7_7 (m_at 0 rfl) rfl dX7_shows_22 ?_
        refine lv_iconst (v := 0) hx hb dX7_shows_25 (by decide) ?_
        refine lv_iload_n hx hb dX7_shows_26 rfl (lv_at hl 1 rfl) ?_
        refine r_addN hx hb 0 i rfl rfl dX7_shows_27 ?_
        refine r_iald X hw (f := s) (0 + i) (m_at 1 rfl) rfl (by omega) (by decide) dX7_shows_28 ?_
        refine r_iast X hw (ws' := mW D L (s, pa, P, ru, td, ah, upd (va_cpy s sh 0 (7 * n) i) (7 * n + i) (s (0 + i)), nI n, S8)) (7 * n + i) rfl (by omega) (by decide) (Foc.cell 8 rfl rfl rfl) dX7_shows_29 (fun H locs hw => ?_)
        refine r_iincN (lv' := [(1, .int (nI (i + 1))), (0, .ref (L 0))]) hx hb i 1 rfl dX7_shows_30 hl (k := 1) rfl rfl (by decide) rfl (fun ls hl => ?_)
        refine lv_goto (tgt := 2) hx hb dX7_shows_33 (by decide) ?_
        exact ih2 (i + 1) (by omega) (by omega) _ _ _ (by rw [← cpy_step0, show s i = s (0 + i) from by rw [Nat.zero_add]]; exact hw) (lv_sub hl [1, 0] rfl)
  exact key2 8 0 (by omega) (by omega) _ _ _ (by rw [cpy_0]; exact hw) (lv_sub hl [1, 0] rfl)

set_option maxRecDepth 100000 in
set_option maxHeartbeats 4000000 in
theorem c_X7_readsAll (l : Launch) (D : va_G) (sz : Nat) (L : Nat → Nat) (s pa : Row) (P ru : Int32) (td ah sh : Row) (n0 : Int32) (S8 : MT8) (p z q : Nat) (hok : rOK s p z q) : MV l yX7_readsAll cX7_readsAll 4 11 238 D sz [.ref (L 0)] (mW D L (s, pa, P, ru, td, ah, sh, n0, S8)) (mW D L ((rdK s td sh q 7).1, pa, P, ru, (rdK s td sh q 7).2.1, ah, (rdK s td sh q 7).2.2.1, nI (rdK s td sh q 7).2.2.2, S8)) := by
  refine r_enterV (by decide) (Nat.le_of_ble_eq_true rfl) ?_
  intro p e st m args below meth c ls A X hret hk hw hl
  have X : CX D p m c cX7_readsAll 4 st args RX7 A := X
  have hx := X.1.1
  have hb := X.1.2.1
  have hown := X.1.2.2.2.1
  have hts := X.1.2.2.2.2
  have hl : lv_has ls 4 [(0, .ref (L 0))] := hl
  refine lv_aload_n hx hb dX7_readsAll_0 rfl (lv_at hl 0 rfl) ?_
  refine lv_iconst (v := 0) hx hb dX7_readsAll_1 (by decide) ?_
  refine r_puti X hw (ws' := mW D L (s, pa, P, ru, td, ah, sh, 0, S8)) fp_X7_114 (Nat.le_of_ble_eq_true rfl) (Foc.cell 0 rfl rfl rfl) dX7_readsAll_2 (fun H locs hw => ?_)
  refine lv_aload_n hx hb dX7_readsAll_5 rfl (lv_at hl 0 rfl) ?_
  refine r_callVv X hw (ws' := mW D L (s, pa, P, ru, td, ah, va_cpy s sh 0 (7 * 0) 7, nI (0 + 1), S8)) (As := []) (rest := []) lk_X7_117 (c_X7_shows l D _ L s pa P ru td ah sh 0 S8 (by omega)) Foc.all (m_at 0 rfl) rfl hl.1 (Nat.le_of_ble_eq_true rfl) ⟨Nat.le_of_ble_eq_true rfl, Nat.le_of_ble_eq_true rfl⟩ rfl dX7_readsAll_6 ⟨Nat.le_refl _, Nat.le_refl _⟩ (fun H locs hw => ?_)
  refine lv_iconst (v := 0) hx hb dX7_readsAll_9 (by decide) ?_
  refine lv_istore_n (lv' := [(1, .int 0), (0, .ref (L 0))]) hx hb dX7_readsAll_10 rfl hl (by decide) rfl (fun ls hl => ?_)
  have key11 : ∀ (n11 : Nat) (k : Nat) (y : Row × Row × Row × Nat), (k ≤ 7) → (7 - k < n11) → (y = rdK s td sh q k) → ∀ (H : Heap) (locs : List Loc) (ls : Array Slot), Wd D A st.heap H locs (mW D L (y.1, pa, P, ru, y.2.1, ah, y.2.2.1, nI y.2.2.2, S8)) → lv_has ls 4 [(0, .ref (L 0)), (1, .int (nI k))] → W p l e (rmOf 11 0 0 238) st m args below meth c H locs 0 0 (QV below args st D A (mW D L ((rdK s td sh q 7).1, pa, P, ru, (rdK s td sh q 7).2.1, ah, (rdK s td sh q 7).2.2.1, nI (rdK s td sh q 7).2.2.2, S8))) (F0 m 11 ls []) := by
    intro n11
    induction n11 with
    | zero => intro k y hk1 hm hy; omega
    | succ n11 ih11 =>
      intro k y hk1 hm hy H locs ls hw hl
      have hq8 := hok.2.2.2.2.2.2
      refine lv_iload_n hx hb dX7_readsAll_11 rfl (lv_at hl 1 rfl) ?_
      refine lv_bipush (v := 7) hx hb dX7_readsAll_12 (by decide) ?_
      refine r_geN (tgt := 92) hx hb k 7 rfl rfl (by omega) (by omega) dX7_readsAll_14 (by decide) (fun c1 => ?_) (fun c1 => ?_)
      · skip
        exact r_retV X hw hk hret (by rw [hy, show k = 7 from by omega]) dX7_readsAll_92
      · skip
        refine lv_aload_n hx hb dX7_readsAll_17 rfl (lv_at hl 0 rfl) ?_
        refine r_get X hw (v := .ref (L 1)) fl_X7_7 (m_at 0 rfl) rfl dX7_readsAll_18 ?_
        refine lv_bipush (v := 38) hx hb dX7_readsAll_21 (by decide) ?_
        refine r_iald X hw (f := y.1) 38 (m_at 1 rfl) rfl (by decide) (by decide) dX7_readsAll_23 ?_
        refine lv_if_ne (tgt := 31) hx hb dX7_readsAll_24 (by decide) (fun c2 => ?_) (fun c2 => ?_)
        · skip
          refine lv_bipush (v := 6) hx hb dX7_readsAll_31 (by decide) ?_
          refine lv_iload_n hx hb dX7_readsAll_33 rfl (lv_at hl 1 rfl) ?_
          refine r_subN hx hb 6 k rfl rfl (by omega) dX7_readsAll_34 ?_
          refine lv_istore_n (lv' := [(2, .int (nI (6 - k))), (0, .ref (L 0)), (1, .int (nI k))]) hx hb dX7_readsAll_35 rfl hl (by decide) rfl (fun ls hl => ?_)
          refine lv_aload_n hx hb dX7_readsAll_36 rfl (lv_at hl 1 rfl) ?_
          refine r_get X hw (v := .ref (L 6)) fl_X7_25 (m_at 0 rfl) rfl dX7_readsAll_37 ?_
          refine lv_iload_n hx hb dX7_readsAll_40 rfl (lv_at hl 0 rfl) ?_
          refine lv_aload_n hx hb dX7_readsAll_41 rfl (lv_at hl 1 rfl) ?_
          refine r_get X hw (v := .ref (L 1)) fl_X7_7 (m_at 0 rfl) rfl dX7_readsAll_42 ?_
          refine lv_iconst (v := 0) hx hb dX7_readsAll_45 (by decide) ?_
          refine lv_iload_n hx hb dX7_readsAll_46 rfl (lv_at hl 0 rfl) ?_
          refine r_addN hx hb 0 (6 - k) rfl rfl dX7_readsAll_47 ?_
          refine r_iald X hw (f := y.1) (0 + (6 - k)) (m_at 1 rfl) rfl (by omega) (by decide) dX7_readsAll_48 ?_
          refine r_iast X hw (ws' := mW D L (y.1, pa, P, ru, upd y.2.1 (6 - k) (y.1 (0 + (6 - k))), ah, y.2.2.1, nI y.2.2.2, S8)) (6 - k) rfl (by omega) (by decide) (Foc.cell 6 rfl rfl rfl) dX7_readsAll_49 (fun H locs hw => ?_)
          refine lv_iconst (v := 0) hx hb dX7_readsAll_50 (by decide) ?_
          refine lv_istore_n (lv' := [(3, .int 0), (2, .int (nI (6 - k))), (0, .ref (L 0)), (1, .int (nI k))]) hx hb dX7_readsAll_51 rfl hl (by decide) rfl (fun ls hl => ?_)
          have key52 : ∀ (n52 : Nat) (f : Nat) (x : Row × Row × Nat), (f ≤ q) → (q - f < n52) → (x = rdIn k (y.1, y.2.2.1, y.2.2.2) f) → ∀ (H : Heap) (locs : List Loc) (ls : Array Slot), Wd D A st.heap H locs (mW D L (x.1, pa, P, ru, upd y.2.1 (6 - k) (y.1 (0 + (6 - k))), ah, x.2.1, nI x.2.2, S8)) → lv_has ls 4 [(0, .ref (L 0)), (1, .int (nI k)), (2, .int (nI (6 - k))), (3, .int (nI f))] → W p l e (rmOf 11 0 0 238) st m args below meth c H locs 0 0 (QV below args st D A (mW D L ((rdK s td sh q 7).1, pa, P, ru, (rdK s td sh q 7).2.1, ah, (rdK s td sh q 7).2.2.1, nI (rdK s td sh q 7).2.2.2, S8))) (F0 m 52 ls []) := by
            intro n52
            induction n52 with
            | zero => intro f x hf hm2 hxe; omega
            | succ n52 ih52 =>
              intro f x hf hm2 hxe H locs ls hw hl
              obtain ⟨p2, hok2, hn2⟩ := rdIn_b (td := td) (sh := sh) hok (k := k) (by omega) hf
              rw [← hy] at hok2 hn2
              rw [← hxe] at hok2 hn2
              have hx37 : x.1 37 = nI q := hok2.2.2.1
              refine lv_iload_n hx hb dX7_readsAll_52 rfl (lv_at hl 3 rfl) ?_
              refine lv_aload_n hx hb dX7_readsAll_53 rfl (lv_at hl 0 rfl) ?_
              refine r_get X hw (v := .ref (L 1)) fl_X7_7 (m_at 0 rfl) rfl dX7_readsAll_54 ?_
              refine lv_bipush (v := 37) hx hb dX7_readsAll_57 (by decide) ?_
              refine r_iald X hw (f := x.1) 37 (m_at 1 rfl) rfl (by decide) (by decide) dX7_readsAll_59 ?_
              rw [hx37]
              refine r_geN (tgt := 86) hx hb f q rfl rfl (by omega) (by omega) dX7_readsAll_60 (by decide) (fun c3 => ?_) (fun c3 => ?_)
              · skip
                refine r_iincN (lv' := [(1, .int (nI (k + 1))), (0, .ref (L 0)), (2, .int (nI (6 - k))), (3, .int (nI f))]) hx hb k 1 rfl dX7_readsAll_86 hl (k := 1) rfl rfl (by decide) rfl (fun ls hl => ?_)
                refine lv_goto (tgt := 11) hx hb dX7_readsAll_89 (by decide) ?_
                exact ih11 (k + 1) ((rdIn k (y.1, y.2.2.1, y.2.2.2) q).1, upd y.2.1 (6 - k) (y.1 (0 + (6 - k))), (rdIn k (y.1, y.2.2.1, y.2.2.2) q).2.1, (rdIn k (y.1, y.2.2.1, y.2.2.2) q).2.2) (by omega) (by omega) (by show _ = rdK s td sh q (k + 1); unfold rdK; rw [← hy]; rw [if_neg c2]) _ _ _ (by rw [show q = f from by omega, ← hxe]; exact hw) (lv_sub hl [1, 0] rfl)
              · skip
                refine lv_aload_n hx hb dX7_readsAll_63 rfl (lv_at hl 0 rfl) ?_
                refine r_callV X hw (ws' := mW D L ((sp_X7_phase x.1).2, pa, P, ru, upd y.2.1 (6 - k) (y.1 (0 + (6 - k))), ah, x.2.1, nI x.2.2, S8)) (As := []) (rest := []) lk_X7_100 (c_X7_phase l D _ L x.1 (pa, P, ru, upd y.2.1 (6 - k) (y.1 (0 + (6 - k))), ah, x.2.1, nI x.2.2, S8)) Foc.all (m_at 0 rfl) rfl hl.1 (Nat.le_of_ble_eq_true rfl) ⟨Nat.le_of_ble_eq_true rfl, Nat.le_of_ble_eq_true rfl⟩ rfl dX7_readsAll_64 ⟨Nat.le_refl _, Nat.le_refl _⟩ (fun H locs hw => ?_)
                refine lv_if_eq (tgt := 80) hx hb dX7_readsAll_67 (by decide) (fun c4 => ?_) (fun c4 => ?_)
                · skip
                  refine r_iincN (lv' := [(3, .int (nI (f + 1))), (0, .ref (L 0)), (1, .int (nI k)), (2, .int (nI (6 - k)))]) hx hb f 1 rfl dX7_readsAll_80 hl (k := 3) rfl rfl (by decide) rfl (fun ls hl => ?_)
                  refine lv_goto (tgt := 52) hx hb dX7_readsAll_83 (by decide) ?_
                  exact ih52 (f + 1) (rdPh k x) (by omega) (by omega) (by rw [hxe]; rfl) _ _ _ (by rw [show rdPh k x = ((sp_X7_phase x.1).2, x.2.1, x.2.2) from (by unfold rdPh; rw [if_pos c4])]; exact hw) (lv_sub hl [1, 2, 3, 0] rfl)
                · skip
                  refine lv_iload_n hx hb dX7_readsAll_70 rfl (lv_at hl 1 rfl) ?_
                  refine lv_bipush (v := 6) hx hb dX7_readsAll_71 (by decide) ?_
                  refine r_geN (tgt := 80) hx hb k 6 rfl rfl (by omega) (by omega) dX7_readsAll_73 (by decide) (fun c5 => ?_) (fun c5 => ?_)
                  · skip
                    refine r_iincN (lv' := [(3, .int (nI (f + 1))), (0, .ref (L 0)), (1, .int (nI k)), (2, .int (nI (6 - k)))]) hx hb f 1 rfl dX7_readsAll_80 hl (k := 3) rfl rfl (by decide) rfl (fun ls hl => ?_)
                    refine lv_goto (tgt := 52) hx hb dX7_readsAll_83 (by decide) ?_
                    exact ih52 (f + 1) (rdPh k x) (by omega) (by omega) (by rw [hxe]; rfl) _ _ _ (by rw [show rdPh k x = ((sp_X7_phase x.1).2, x.2.1, x.2.2) from (by unfold rdPh; rw [if_neg c4]; rw [if_pos c5])]; exact hw) (lv_sub hl [1, 2, 3, 0] rfl)
                  · skip
                    refine lv_aload_n hx hb dX7_readsAll_76 rfl (lv_at hl 0 rfl) ?_
                    refine r_callVv X hw (ws' := mW D L ((sp_X7_phase x.1).2, pa, P, ru, upd y.2.1 (6 - k) (y.1 (0 + (6 - k))), ah, va_cpy ((sp_X7_phase x.1).2) x.2.1 0 (7 * x.2.2) 7, nI (x.2.2 + 1), S8)) (As := []) (rest := []) lk_X7_117 (c_X7_shows l D _ L ((sp_X7_phase x.1).2) pa P ru (upd y.2.1 (6 - k) (y.1 (0 + (6 - k)))) ah x.2.1 x.2.2 S8 (by omega)) Foc.all (m_at 0 rfl) rfl hl.1 (Nat.le_of_ble_eq_true rfl) ⟨Nat.le_of_ble_eq_true rfl, Nat.le_of_ble_eq_true rfl⟩ rfl dX7_readsAll_77 ⟨Nat.le_refl _, Nat.le_refl _⟩ (fun H locs hw => ?_)
                    refine r_iincN (lv' := [(3, .int (nI (f + 1))), (0, .ref (L 0)), (1, .int (nI k)), (2, .int (nI (6 - k)))]) hx hb f 1 rfl dX7_readsAll_80 hl (k := 3) rfl rfl (by decide) rfl (fun ls hl => ?_)
                    refine lv_goto (tgt := 52) hx hb dX7_readsAll_83 (by decide) ?_
                    exact ih52 (f + 1) (rdPh k x) (by omega) (by omega) (by rw [hxe]; rfl) _ _ _ (by rw [show rdPh k x = ((sp_X7_phase x.1).2, va_cpy ((sp_X7_phase x.1).2) x.2.1 0 (7 * x.2.2) 7, x.2.2 + 1) from (by unfold rdPh; rw [if_neg c4]; rw [if_neg (Nat.not_le.mpr c5)])]; exact hw) (lv_sub hl [1, 2, 3, 0] rfl)
          exact key52 (q + 1) 0 (y.1, y.2.2.1, y.2.2.2) (by omega) (by omega) rfl _ _ _ hw (lv_sub hl [2, 3, 1, 0] rfl)
        · skip
          refine lv_iload_n hx hb dX7_readsAll_27 rfl (lv_at hl 1 rfl) ?_
          refine lv_goto (tgt := 35) hx hb dX7_readsAll_28 (by decide) ?_
          refine lv_istore_n (lv' := [(2, .int (nI k)), (0, .ref (L 0)), (1, .int (nI k))]) hx hb dX7_readsAll_35 rfl hl (by decide) rfl (fun ls hl => ?_)
          refine lv_aload_n hx hb dX7_readsAll_36 rfl (lv_at hl 1 rfl) ?_
          refine r_get X hw (v := .ref (L 6)) fl_X7_25 (m_at 0 rfl) rfl dX7_readsAll_37 ?_
          refine lv_iload_n hx hb dX7_readsAll_40 rfl (lv_at hl 0 rfl) ?_
          refine lv_aload_n hx hb dX7_readsAll_41 rfl (lv_at hl 1 rfl) ?_
          refine r_get X hw (v := .ref (L 1)) fl_X7_7 (m_at 0 rfl) rfl dX7_readsAll_42 ?_
          refine lv_iconst (v := 0) hx hb dX7_readsAll_45 (by decide) ?_
          refine lv_iload_n hx hb dX7_readsAll_46 rfl (lv_at hl 0 rfl) ?_
          refine r_addN hx hb 0 k rfl rfl dX7_readsAll_47 ?_
          refine r_iald X hw (f := y.1) (0 + k) (m_at 1 rfl) rfl (by omega) (by decide) dX7_readsAll_48 ?_
          refine r_iast X hw (ws' := mW D L (y.1, pa, P, ru, upd y.2.1 k (y.1 (0 + k)), ah, y.2.2.1, nI y.2.2.2, S8)) k rfl (by omega) (by decide) (Foc.cell 6 rfl rfl rfl) dX7_readsAll_49 (fun H locs hw => ?_)
          refine lv_iconst (v := 0) hx hb dX7_readsAll_50 (by decide) ?_
          refine lv_istore_n (lv' := [(3, .int 0), (2, .int (nI k)), (0, .ref (L 0)), (1, .int (nI k))]) hx hb dX7_readsAll_51 rfl hl (by decide) rfl (fun ls hl => ?_)
          have key52 : ∀ (n52 : Nat) (f : Nat) (x : Row × Row × Nat), (f ≤ q) → (q - f < n52) → (x = rdIn k (y.1, y.2.2.1, y.2.2.2) f) → ∀ (H : Heap) (locs : List Loc) (ls : Array Slot), Wd D A st.heap H locs (mW D L (x.1, pa, P, ru, upd y.2.1 k (y.1 (0 + k)), ah, x.2.1, nI x.2.2, S8)) → lv_has ls 4 [(0, .ref (L 0)), (1, .int (nI k)), (2, .int (nI k)), (3, .int (nI f))] → W p l e (rmOf 11 0 0 238) st m args below meth c H locs 0 0 (QV below args st D A (mW D L ((rdK s td sh q 7).1, pa, P, ru, (rdK s td sh q 7).2.1, ah, (rdK s td sh q 7).2.2.1, nI (rdK s td sh q 7).2.2.2, S8))) (F0 m 52 ls []) := by
            intro n52
            induction n52 with
            | zero => intro f x hf hm2 hxe; omega
            | succ n52 ih52 =>
              intro f x hf hm2 hxe H locs ls hw hl
              obtain ⟨p2, hok2, hn2⟩ := rdIn_b (td := td) (sh := sh) hok (k := k) (by omega) hf
              rw [← hy] at hok2 hn2
              rw [← hxe] at hok2 hn2
              have hx37 : x.1 37 = nI q := hok2.2.2.1
              refine lv_iload_n hx hb dX7_readsAll_52 rfl (lv_at hl 3 rfl) ?_
              refine lv_aload_n hx hb dX7_readsAll_53 rfl (lv_at hl 0 rfl) ?_
              refine r_get X hw (v := .ref (L 1)) fl_X7_7 (m_at 0 rfl) rfl dX7_readsAll_54 ?_
              refine lv_bipush (v := 37) hx hb dX7_readsAll_57 (by decide) ?_
              refine r_iald X hw (f := x.1) 37 (m_at 1 rfl) rfl (by decide) (by decide) dX7_readsAll_59 ?_
              rw [hx37]
              refine r_geN (tgt := 86) hx hb f q rfl rfl (by omega) (by omega) dX7_readsAll_60 (by decide) (fun c6 => ?_) (fun c6 => ?_)
              · skip
                refine r_iincN (lv' := [(1, .int (nI (k + 1))), (0, .ref (L 0)), (2, .int (nI k)), (3, .int (nI f))]) hx hb k 1 rfl dX7_readsAll_86 hl (k := 1) rfl rfl (by decide) rfl (fun ls hl => ?_)
                refine lv_goto (tgt := 11) hx hb dX7_readsAll_89 (by decide) ?_
                exact ih11 (k + 1) ((rdIn k (y.1, y.2.2.1, y.2.2.2) q).1, upd y.2.1 k (y.1 (0 + k)), (rdIn k (y.1, y.2.2.1, y.2.2.2) q).2.1, (rdIn k (y.1, y.2.2.1, y.2.2.2) q).2.2) (by omega) (by omega) (by show _ = rdK s td sh q (k + 1); unfold rdK; rw [← hy]; rw [if_pos c2]) _ _ _ (by rw [show q = f from by omega, ← hxe]; exact hw) (lv_sub hl [1, 0] rfl)
              · skip
                refine lv_aload_n hx hb dX7_readsAll_63 rfl (lv_at hl 0 rfl) ?_
                refine r_callV X hw (ws' := mW D L ((sp_X7_phase x.1).2, pa, P, ru, upd y.2.1 k (y.1 (0 + k)), ah, x.2.1, nI x.2.2, S8)) (As := []) (rest := []) lk_X7_100 (c_X7_phase l D _ L x.1 (pa, P, ru, upd y.2.1 k (y.1 (0 + k)), ah, x.2.1, nI x.2.2, S8)) Foc.all (m_at 0 rfl) rfl hl.1 (Nat.le_of_ble_eq_true rfl) ⟨Nat.le_of_ble_eq_true rfl, Nat.le_of_ble_eq_true rfl⟩ rfl dX7_readsAll_64 ⟨Nat.le_refl _, Nat.le_refl _⟩ (fun H locs hw => ?_)
                refine lv_if_eq (tgt := 80) hx hb dX7_readsAll_67 (by decide) (fun c7 => ?_) (fun c7 => ?_)
                · skip
                  refine r_iincN (lv' := [(3, .int (nI (f + 1))), (0, .ref (L 0)), (1, .int (nI k)), (2, .int (nI k))]) hx hb f 1 rfl dX7_readsAll_80 hl (k := 3) rfl rfl (by decide) rfl (fun ls hl => ?_)
                  refine lv_goto (tgt := 52) hx hb dX7_readsAll_83 (by decide) ?_
                  exact ih52 (f + 1) (rdPh k x) (by omega) (by omega) (by rw [hxe]; rfl) _ _ _ (by rw [show rdPh k x = ((sp_X7_phase x.1).2, x.2.1, x.2.2) from (by unfold rdPh; rw [if_pos c7])]; exact hw) (lv_sub hl [1, 2, 3, 0] rfl)
                · skip
                  refine lv_iload_n hx hb dX7_readsAll_70 rfl (lv_at hl 1 rfl) ?_
                  refine lv_bipush (v := 6) hx hb dX7_readsAll_71 (by decide) ?_
                  refine r_geN (tgt := 80) hx hb k 6 rfl rfl (by omega) (by omega) dX7_readsAll_73 (by decide) (fun c8 => ?_) (fun c8 => ?_)
                  · skip
                    refine r_iincN (lv' := [(3, .int (nI (f + 1))), (0, .ref (L 0)), (1, .int (nI k)), (2, .int (nI k))]) hx hb f 1 rfl dX7_readsAll_80 hl (k := 3) rfl rfl (by decide) rfl (fun ls hl => ?_)
                    refine lv_goto (tgt := 52) hx hb dX7_readsAll_83 (by decide) ?_
                    exact ih52 (f + 1) (rdPh k x) (by omega) (by omega) (by rw [hxe]; rfl) _ _ _ (by rw [show rdPh k x = ((sp_X7_phase x.1).2, x.2.1, x.2.2) from (by unfold rdPh; rw [if_neg c7]; rw [if_pos c8])]; exact hw) (lv_sub hl [1, 2, 3, 0] rfl)
                  · skip
                    refine lv_aload_n hx hb dX7_readsAll_76 rfl (lv_at hl 0 rfl) ?_
                    refine r_callVv X hw (ws' := mW D L ((sp_X7_phase x.1).2, pa, P, ru, upd y.2.1 k (y.1 (0 + k)), ah, va_cpy ((sp_X7_phase x.1).2) x.2.1 0 (7 * x.2.2) 7, nI (x.2.2 + 1), S8)) (As := []) (rest := []) lk_X7_117 (c_X7_shows l D _ L ((sp_X7_phase x.1).2) pa P ru (upd y.2.1 k (y.1 (0 + k))) ah x.2.1 x.2.2 S8 (by omega)) Foc.all (m_at 0 rfl) rfl hl.1 (Nat.le_of_ble_eq_true rfl) ⟨Nat.le_of_ble_eq_true rfl, Nat.le_of_ble_eq_true rfl⟩ rfl dX7_readsAll_77 ⟨Nat.le_refl _, Nat.le_refl _⟩ (fun H locs hw => ?_)
                    refine r_iincN (lv' := [(3, .int (nI (f + 1))), (0, .ref (L 0)), (1, .int (nI k)), (2, .int (nI k))]) hx hb f 1 rfl dX7_readsAll_80 hl (k := 3) rfl rfl (by decide) rfl (fun ls hl => ?_)
                    refine lv_goto (tgt := 52) hx hb dX7_readsAll_83 (by decide) ?_
                    exact ih52 (f + 1) (rdPh k x) (by omega) (by omega) (by rw [hxe]; rfl) _ _ _ (by rw [show rdPh k x = ((sp_X7_phase x.1).2, va_cpy ((sp_X7_phase x.1).2) x.2.1 0 (7 * x.2.2) 7, x.2.2 + 1) from (by unfold rdPh; rw [if_neg c7]; rw [if_neg (Nat.not_le.mpr c8)])]; exact hw) (lv_sub hl [1, 2, 3, 0] rfl)
          exact key52 (q + 1) 0 (y.1, y.2.2.1, y.2.2.2) (by omega) (by omega) rfl _ _ _ hw (lv_sub hl [2, 3, 1, 0] rfl)
  exact key11 8 0 (s, td, va_cpy s sh 0 (7 * 0) 7, 1) (by omega) (by omega) rfl _ _ _ hw (lv_sub hl [1, 0] rfl)
end
section
/-! bursts of the reference: at once, again, what was shown, what is logged -/
theorem phN_nat (s : Row) : ∀ n, ∃ m, m ≤ n ∧ phN s n = nI m
  | 0 => ⟨0, Nat.le_refl 0, rfl⟩
  | n + 1 => by
    obtain ⟨m, h1, h2⟩ := phN_nat s n
    by_cases h : (sp_X7_phase (phF s n)).1 = 0
    · exact ⟨m, by omega, by show phN s n + _ = _; rw [if_pos h, h2]; exact nI_add m 0⟩
    · exact ⟨m + 1, by omega, by show phN s n + _ = _; rw [if_neg h, h2]; exact nI_1 m⟩
theorem phN_ge (s : Row) (n : Nat) (hn : n < 2147483648) : 0 ≤ phN s n := by
  obtain ⟨m, h1, h2⟩ := phN_nat s n
  rw [h2]
  exact nI_pos' (by omega)
theorem phN_nlt (s : Row) (n : Nat) (hn : n < 2147483648) : ¬ phN s n < 0 := by
  obtain ⟨m, h1, h2⟩ := phN_nat s n
  rw [h2]
  exact nI_pos (by omega)
theorem phF_ok {s : Row} {z q : Nat} : ∀ (n : Nat) {p : Nat}, rOK s p z q → ∃ p', rOK (phF s n) p' z q
  | 0, p, h => ⟨p, h⟩
  | n + 1, p, h => by
    obtain ⟨p', h2⟩ := phF_ok n h
    rcases phase_ok h2 with ⟨-, h3⟩ | ⟨-, h3, -⟩
    · exact ⟨_, h3⟩
    · exact ⟨_, h3⟩

set_option maxRecDepth 100000 in
set_option maxHeartbeats 4000000 in
theorem c_X7_readsAtOnce (l : Launch) (D : va_G) (sz : Nat) (L : Nat → Nat) (s pa : Row) (P ru : Int32) (td ah sh : Row) (n0 : Int32) (S8 : MT8) (p z q : Nat) (hok : rOK s p z q) : MV l yX7_readsAtOnce cX7_readsAtOnce 2 12 261 D sz [.ref (L 0)] (mW D L (s, pa, P, ru, td, ah, sh, n0, S8)) (mW D L (phF s (7 * q), pa, P, ru, va_cpy s td 0 0 7, ah, va_cpy s sh 0 (7 * 0) 7, 1, S8)) := by
  refine r_enterV (by decide) (Nat.le_of_ble_eq_true rfl) ?_
  intro p e st m args below meth c ls A X hret hk hw hl
  have X : CX D p m c cX7_readsAtOnce 2 st args RX7 A := X
  have hx := X.1.1
  have hb := X.1.2.1
  have hown := X.1.2.2.2.1
  have hts := X.1.2.2.2.2
  have hl : lv_has ls 2 [(0, .ref (L 0))] := hl
  refine lv_aload_n hx hb dX7_readsAtOnce_0 rfl (lv_at hl 0 rfl) ?_
  refine lv_iconst (v := 0) hx hb dX7_readsAtOnce_1 (by decide) ?_
  refine r_puti X hw (ws' := mW D L (s, pa, P, ru, td, ah, sh, 0, S8)) fp_X7_114 (Nat.le_of_ble_eq_true rfl) (Foc.cell 0 rfl rfl rfl) dX7_readsAtOnce_2 (fun H locs hw => ?_)
  refine lv_aload_n hx hb dX7_readsAtOnce_5 rfl (lv_at hl 0 rfl) ?_
  refine r_callVv X hw (ws' := mW D L (s, pa, P, ru, td, ah, va_cpy s sh 0 (7 * 0) 7, nI (0 + 1), S8)) (As := []) (rest := []) lk_X7_117 (c_X7_shows l D _ L s pa P ru td ah sh 0 S8 (by omega)) Foc.all (m_at 0 rfl) rfl hl.1 (Nat.le_of_ble_eq_true rfl) ⟨Nat.le_of_ble_eq_true rfl, Nat.le_of_ble_eq_true rfl⟩ rfl dX7_readsAtOnce_6 ⟨Nat.le_refl _, Nat.le_refl _⟩ (fun H locs hw => ?_)
  refine lv_iconst (v := 0) hx hb dX7_readsAtOnce_9 (by decide) ?_
  refine lv_istore_n (lv' := [(1, .int 0), (0, .ref (L 0))]) hx hb dX7_readsAtOnce_10 rfl hl (by decide) rfl (fun ls hl => ?_)
  have key11 : ∀ (n11 : Nat) (i : Nat), (i ≤ 7) → (7 - i < n11) → ∀ (H : Heap) (locs : List Loc) (ls : Array Slot), Wd D A st.heap H locs (mW D L (s, pa, P, ru, va_cpy s td 0 0 i, ah, va_cpy s sh 0 (7 * 0) 7, 1, S8)) → lv_has ls 2 [(0, .ref (L 0)), (1, .int (nI i))] → W p l e (rmOf 12 0 0 261) st m args below meth c H locs 0 0 (QV below args st D A (mW D L (phF s (7 * q), pa, P, ru, va_cpy s td 0 0 7, ah, va_cpy s sh 0 (7 * 0) 7, 1, S8))) (F0 m 11 ls []) := by
    intro n11
    induction n11 with
    | zero => intro i hi hm; omega
    | succ n11 ih11 =>
      intro i hi hm H locs ls hw hl
      have hq8 := hok.2.2.2.2.2.2
      refine lv_iload_n hx hb dX7_readsAtOnce_11 rfl (lv_at hl 1 rfl) ?_
      refine lv_bipush (v := 7) hx hb dX7_readsAtOnce_12 (by decide) ?_
      refine r_geN (tgt := 37) hx hb i 7 rfl rfl (by omega) (by omega) dX7_readsAtOnce_14 (by decide) (fun c1 => ?_) (fun c1 => ?_)
      · skip
        refine lv_aload_n hx hb dX7_readsAtOnce_37 rfl (lv_at hl 0 rfl) ?_
        refine lv_dup hx hb dX7_readsAtOnce_38 rfl ?_
        refine r_get X hw (v := .int 1) fl_X7_114 (m_at 0 rfl) rfl dX7_readsAtOnce_39 ?_
        refine lv_aload_n hx hb dX7_readsAtOnce_42 rfl (lv_at hl 0 rfl) ?_
        refine lv_bipush (v := 7) hx hb dX7_readsAtOnce_43 (by decide) ?_
        refine lv_aload_n hx hb dX7_readsAtOnce_45 rfl (lv_at hl 0 rfl) ?_
        refine r_get X hw (v := .ref (L 1)) fl_X7_7 (m_at 0 rfl) rfl dX7_readsAtOnce_46 ?_
        refine lv_bipush (v := 37) hx hb dX7_readsAtOnce_49 (by decide) ?_
        refine r_iald X hw (f := s) 37 (m_at 1 rfl) rfl (by decide) (by decide) dX7_readsAtOnce_51 ?_
        rw [hok.2.2.1]
        refine r_mulN hx hb 7 q rfl rfl dX7_readsAtOnce_52 ?_
        refine r_callV X hw (ws' := mW D L (phF s (7 * q), pa, P, ru, va_cpy s td 0 0 i, ah, va_cpy s sh 0 (7 * 0) 7, 1, S8)) (As := [.int (nI (7 * q))]) (rest := [.int 1, .ref (L 0)]) lk_X7_110 (c_X7_passes l D _ L s (pa, P, ru, va_cpy s td 0 0 i, ah, va_cpy s sh 0 (7 * 0) 7, 1, S8) (7 * q) (by omega)) Foc.all (m_at 0 rfl) rfl hl.1 (Nat.le_of_ble_eq_true rfl) ⟨Nat.le_of_ble_eq_true rfl, Nat.le_of_ble_eq_true rfl⟩ rfl dX7_readsAtOnce_53 ⟨Nat.le_refl _, Nat.le_refl _⟩ (fun H locs hw => ?_)
        refine lv_if_ge (tgt := 63) hx hb dX7_readsAtOnce_56 (by decide) (fun _ => ?_) (fun h => absurd (phN_ge s (7 * q) (by omega)) h)
        refine lv_iconst (v := 0) hx hb dX7_readsAtOnce_63 (by decide) ?_
        refine lv_isub hx hb dX7_readsAtOnce_64 ?_
        refine r_puti X hw (ws' := mW D L (phF s (7 * q), pa, P, ru, va_cpy s td 0 0 i, ah, va_cpy s sh 0 (7 * 0) 7, 1 - 0, S8)) fp_X7_114 (Nat.le_of_ble_eq_true rfl) (Foc.cell 0 rfl rfl rfl) dX7_readsAtOnce_65 (fun H locs hw => ?_)
        exact r_retV X hw hk hret (by rw [show i = 7 from by omega, show (1 - 0 : Int32) = 1 from by decide]) dX7_readsAtOnce_68
      · skip
        refine lv_aload_n hx hb dX7_readsAtOnce_17 rfl (lv_at hl 0 rfl) ?_
        refine r_get X hw (v := .ref (L 6)) fl_X7_25 (m_at 0 rfl) rfl dX7_readsAtOnce_18 ?_
        refine lv_iload_n hx hb dX7_readsAtOnce_21 rfl (lv_at hl 1 rfl) ?_
        refine lv_aload_n hx hb dX7_readsAtOnce_22 rfl (lv_at hl 0 rfl) ?_
        refine r_get X hw (v := .ref (L 1)) fl_X7_7 (m_at 0 rfl) rfl dX7_readsAtOnce_23 ?_
        refine lv_iconst (v := 0) hx hb dX7_readsAtOnce_26 (by decide) ?_
        refine lv_iload_n hx hb dX7_readsAtOnce_27 rfl (lv_at hl 1 rfl) ?_
        refine r_addN hx hb 0 i rfl rfl dX7_readsAtOnce_28 ?_
        refine r_iald X hw (f := s) (0 + i) (m_at 1 rfl) rfl (by omega) (by decide) dX7_readsAtOnce_29 ?_
        refine r_iast X hw (ws' := mW D L (s, pa, P, ru, upd (va_cpy s td 0 0 i) i (s (0 + i)), ah, va_cpy s sh 0 (7 * 0) 7, 1, S8)) i rfl (by omega) (by decide) (Foc.cell 6 rfl rfl rfl) dX7_readsAtOnce_30 (fun H locs hw => ?_)
        refine r_iincN (lv' := [(1, .int (nI (i + 1))), (0, .ref (L 0))]) hx hb i 1 rfl dX7_readsAtOnce_31 hl (k := 1) rfl rfl (by decide) rfl (fun ls hl => ?_)
        refine lv_goto (tgt := 11) hx hb dX7_readsAtOnce_34 (by decide) ?_
        exact ih11 (i + 1) (by omega) (by omega) _ _ _ (by rw [← cpy_step00, show s i = s (0 + i) from by rw [Nat.zero_add]]; exact hw) (lv_sub hl [1, 0] rfl)
  exact key11 8 0 (by omega) (by omega) _ _ _ (by rw [cpy_0]; exact hw) (lv_sub hl [1, 0] rfl)

noncomputable def sp_X7_isAsAhead (td ah : Row) : Int32 := bI (∀ r, r < 7 → td r = ah r)
theorem bo_X7_isAsAhead (td ah : Row) : sp_X7_isAsAhead td ah = 0 ∨ sp_X7_isAsAhead td ah = 1 := bI_b _
noncomputable def sp_X7_wasShown (td sh : Row) (n : Nat) : Int32 := bI (∃ k, k < n ∧ ∀ r, r < 7 → td r = sh (7 * k + r))
theorem bo_X7_wasShown (td sh : Row) (n : Nat) : sp_X7_wasShown td sh n = 0 ∨ sp_X7_wasShown td sh n = 1 := bI_b _

set_option maxRecDepth 100000 in
set_option maxHeartbeats 4000000 in
theorem c_X7_isAsAhead (l : Launch) (D : va_G) (sz : Nat) (L : Nat → Nat) (s pa : Row) (P ru : Int32) (td ah sh : Row) (n0 : Int32) (S8 : MT8) : MI l yX7_isAsAhead cX7_isAsAhead 3 (some .boolean) 0 0 D sz [.ref (L 0)] (mW D L (s, pa, P, ru, td, ah, sh, n0, S8)) (sp_X7_isAsAhead td ah) (mW D L (s, pa, P, ru, td, ah, sh, n0, S8)) := by
  refine r_enterI (by decide) (Nat.le_of_ble_eq_true rfl) ?_
  intro p e st m args below meth c ls A X hret hk hw hl
  have X : CX D p m c cX7_isAsAhead 3 st args RX7 A := X
  have hx := X.1.1
  have hb := X.1.2.1
  have hown := X.1.2.2.2.1
  have hts := X.1.2.2.2.2
  have hl : lv_has ls 3 [(0, .ref (L 0))] := hl
  refine lv_iconst (v := 1) hx hb dX7_isAsAhead_0 (by decide) ?_
  refine lv_istore_n (lv' := [(1, .int 1), (0, .ref (L 0))]) hx hb dX7_isAsAhead_1 rfl hl (by decide) rfl (fun ls hl => ?_)
  refine lv_iconst (v := 0) hx hb dX7_isAsAhead_2 (by decide) ?_
  refine lv_istore_n (lv' := [(2, .int 0), (1, .int 1), (0, .ref (L 0))]) hx hb dX7_isAsAhead_3 rfl hl (by decide) rfl (fun ls hl => ?_)
  have key4 : ∀ (n4 : Nat) (i : Nat) (x : Int32), (i ≤ 7) → (7 - i < n4) → (BI x (∀ r, r < i → td r = ah r)) → ∀ (H : Heap) (locs : List Loc) (ls : Array Slot), Wd D A st.heap H locs (mW D L (s, pa, P, ru, td, ah, sh, n0, S8)) → lv_has ls 3 [(0, .ref (L 0)), (1, .int x), (2, .int (nI i))] → W p l e (rmOf 0 0 0 0) st m args below meth c H locs 0 0 (QI below args st D A (sp_X7_isAsAhead td ah) (mW D L (s, pa, P, ru, td, ah, sh, n0, S8))) (F0 m 4 ls []) := by
    intro n4
    induction n4 with
    | zero => intro i x hi hm hB; omega
    | succ n4 ih4 =>
      intro i x hi hm hB H locs ls hw hl
      refine lv_iload_n hx hb dX7_isAsAhead_4 rfl (lv_at hl 2 rfl) ?_
      refine lv_bipush (v := 7) hx hb dX7_isAsAhead_5 (by decide) ?_
      refine r_geN (tgt := 41) hx hb i 7 rfl rfl (by omega) (by omega) dX7_isAsAhead_7 (by decide) (fun c1 => ?_) (fun c1 => ?_)
      · skip
        refine lv_iload_n hx hb dX7_isAsAhead_41 rfl (lv_at hl 1 rfl) ?_
        exact r_ret X hw hk hret (nar_b (bi_b hB)) (by rw [show i = 7 from by omega] at hB; exact bi_end hB) rfl dX7_isAsAhead_42
      · skip
        refine lv_iload_n hx hb dX7_isAsAhead_10 rfl (lv_at hl 1 rfl) ?_
        refine lv_if_eq (tgt := 33) hx hb dX7_isAsAhead_11 (by decide) (fun c2 => ?_) (fun c2 => ?_)
        · skip
          refine lv_iconst (v := 0) hx hb dX7_isAsAhead_33 (by decide) ?_
          refine lv_istore_n (lv' := [(1, .int 0), (0, .ref (L 0)), (2, .int (nI i))]) hx hb dX7_isAsAhead_34 rfl hl (by decide) rfl (fun ls hl => ?_)
          refine r_iincN (lv' := [(2, .int (nI (i + 1))), (1, .int 0), (0, .ref (L 0))]) hx hb i 1 rfl dX7_isAsAhead_35 hl (k := 2) rfl rfl (by decide) rfl (fun ls hl => ?_)
          refine lv_goto (tgt := 4) hx hb dX7_isAsAhead_38 (by decide) ?_
          exact ih4 (i + 1) 0 (by omega) (by omega) (bi_f0 hB c2) _ _ _ hw (lv_sub hl [2, 1, 0] rfl)
        · skip
          refine lv_aload_n hx hb dX7_isAsAhead_14 rfl (lv_at hl 0 rfl) ?_
          refine r_get X hw (v := .ref (L 6)) fl_X7_25 (m_at 0 rfl) rfl dX7_isAsAhead_15 ?_
          refine lv_iload_n hx hb dX7_isAsAhead_18 rfl (lv_at hl 2 rfl) ?_
          refine r_iald X hw (f := td) i (m_at 6 rfl) rfl (by omega) (by decide) dX7_isAsAhead_19 ?_
          refine lv_aload_n hx hb dX7_isAsAhead_20 rfl (lv_at hl 0 rfl) ?_
          refine r_get X hw (v := .ref (L 7)) fl_X7_28 (m_at 0 rfl) rfl dX7_isAsAhead_21 ?_
          refine lv_iload_n hx hb dX7_isAsAhead_24 rfl (lv_at hl 2 rfl) ?_
          refine r_iald X hw (f := ah) i (m_at 7 rfl) rfl (by omega) (by decide) dX7_isAsAhead_25 ?_
          refine lv_icmp_ne (tgt := 33) hx hb dX7_isAsAhead_26 (by decide) (fun c3 => ?_) (fun c3 => ?_)
          · skip
            refine lv_iconst (v := 0) hx hb dX7_isAsAhead_33 (by decide) ?_
            refine lv_istore_n (lv' := [(1, .int 0), (0, .ref (L 0)), (2, .int (nI i))]) hx hb dX7_isAsAhead_34 rfl hl (by decide) rfl (fun ls hl => ?_)
            refine r_iincN (lv' := [(2, .int (nI (i + 1))), (1, .int 0), (0, .ref (L 0))]) hx hb i 1 rfl dX7_isAsAhead_35 hl (k := 2) rfl rfl (by decide) rfl (fun ls hl => ?_)
            refine lv_goto (tgt := 4) hx hb dX7_isAsAhead_38 (by decide) ?_
            exact ih4 (i + 1) 0 (by omega) (by omega) (bi_f (x := x) c3) _ _ _ hw (lv_sub hl [2, 1, 0] rfl)
          · skip
            refine lv_iconst (v := 1) hx hb dX7_isAsAhead_29 (by decide) ?_
            refine lv_goto (tgt := 34) hx hb dX7_isAsAhead_30 (by decide) ?_
            refine lv_istore_n (lv' := [(1, .int 1), (0, .ref (L 0)), (2, .int (nI i))]) hx hb dX7_isAsAhead_34 rfl hl (by decide) rfl (fun ls hl => ?_)
            refine r_iincN (lv' := [(2, .int (nI (i + 1))), (1, .int 1), (0, .ref (L 0))]) hx hb i 1 rfl dX7_isAsAhead_35 hl (k := 2) rfl rfl (by decide) rfl (fun ls hl => ?_)
            refine lv_goto (tgt := 4) hx hb dX7_isAsAhead_38 (by decide) ?_
            exact ih4 (i + 1) 1 (by omega) (by omega) (bi_t hB c2 c3) _ _ _ hw (lv_sub hl [2, 1, 0] rfl)
  exact key4 8 0 1 (by omega) (by omega) bi_0 _ _ _ hw (lv_sub hl [2, 1, 0] rfl)

set_option maxRecDepth 100000 in
set_option maxHeartbeats 4000000 in
theorem c_X7_wasShown (l : Launch) (D : va_G) (sz : Nat) (L : Nat → Nat) (s pa : Row) (P ru : Int32) (td ah sh : Row) (n : Nat) (S8 : MT8) (hn : n ≤ 15) : MI l yX7_wasShown cX7_wasShown 4 (some .boolean) 0 0 D sz [.ref (L 0)] (mW D L (s, pa, P, ru, td, ah, sh, nI n, S8)) (sp_X7_wasShown td sh n) (mW D L (s, pa, P, ru, td, ah, sh, nI n, S8)) := by
  refine r_enterI (by decide) (Nat.le_of_ble_eq_true rfl) ?_
  intro p e st m args below meth c ls A X hret hk hw hl
  have X : CX D p m c cX7_wasShown 4 st args RX7 A := X
  have hx := X.1.1
  have hb := X.1.2.1
  have hown := X.1.2.2.2.1
  have hts := X.1.2.2.2.2
  have hl : lv_has ls 4 [(0, .ref (L 0))] := hl
  refine lv_iconst (v := 0) hx hb dX7_wasShown_0 (by decide) ?_
  refine lv_istore_n (lv' := [(1, .int 0), (0, .ref (L 0))]) hx hb dX7_wasShown_1 rfl hl (by decide) rfl (fun ls hl => ?_)
  have key2 : ∀ (n2 : Nat) (k : Nat), (k ≤ n) → (n - k < n2) → (∀ j, j < k → ¬ ∀ r, r < 7 → td r = sh (7 * j + r)) → ∀ (H : Heap) (locs : List Loc) (ls : Array Slot), Wd D A st.heap H locs (mW D L (s, pa, P, ru, td, ah, sh, nI n, S8)) → lv_has ls 4 [(0, .ref (L 0)), (1, .int (nI k))] → W p l e (rmOf 0 0 0 0) st m args below meth c H locs 0 0 (QI below args st D A (sp_X7_wasShown td sh n) (mW D L (s, pa, P, ru, td, ah, sh, nI n, S8))) (F0 m 2 ls []) := by
    intro n2
    induction n2 with
    | zero => intro k hk1 hm hno; omega
    | succ n2 ih2 =>
      intro k hk1 hm hno H locs ls hw hl
      refine lv_iload_n hx hb dX7_wasShown_2 rfl (lv_at hl 1 rfl) ?_
      refine lv_aload_n hx hb dX7_wasShown_3 rfl (lv_at hl 0 rfl) ?_
      refine r_get X hw (v := .int (nI n)) fl_X7_114 (m_at 0 rfl) rfl dX7_wasShown_4 ?_
      refine r_geN (tgt := 68) hx hb k n rfl rfl (by omega) (by omega) dX7_wasShown_7 (by decide) (fun c1 => ?_) (fun c1 => ?_)
      · skip
        refine lv_iconst (v := 0) hx hb dX7_wasShown_68 (by decide) ?_
        exact r_ret X hw hk hret rfl (by refine (bI_f ?_).symm; rintro ⟨j, hj, g⟩; exact hno j (by omega) g) rfl dX7_wasShown_69
      · skip
        refine lv_iconst (v := 1) hx hb dX7_wasShown_10 (by decide) ?_
        refine lv_istore_n (lv' := [(2, .int 1), (0, .ref (L 0)), (1, .int (nI k))]) hx hb dX7_wasShown_11 rfl hl (by decide) rfl (fun ls hl => ?_)
        refine lv_iconst (v := 0) hx hb dX7_wasShown_12 (by decide) ?_
        refine lv_istore_n (lv' := [(3, .int 0), (2, .int 1), (0, .ref (L 0)), (1, .int (nI k))]) hx hb dX7_wasShown_13 rfl hl (by decide) rfl (fun ls hl => ?_)
        have key14 : ∀ (n14 : Nat) (i : Nat) (x : Int32), (i ≤ 7) → (7 - i < n14) → (BI x (∀ r, r < i → td r = sh (7 * k + r))) → ∀ (H : Heap) (locs : List Loc) (ls : Array Slot), Wd D A st.heap H locs (mW D L (s, pa, P, ru, td, ah, sh, nI n, S8)) → lv_has ls 4 [(0, .ref (L 0)), (1, .int (nI k)), (2, .int x), (3, .int (nI i))] → W p l e (rmOf 0 0 0 0) st m args below meth c H locs 0 0 (QI below args st D A (sp_X7_wasShown td sh n) (mW D L (s, pa, P, ru, td, ah, sh, nI n, S8))) (F0 m 14 ls []) := by
          intro n14
          induction n14 with
          | zero => intro i x hi hm2 hB; omega
          | succ n14 ih14 =>
            intro i x hi hm2 hB H locs ls hw hl
            refine lv_iload_n hx hb dX7_wasShown_14 rfl (lv_at hl 3 rfl) ?_
            refine lv_bipush (v := 7) hx hb dX7_wasShown_15 (by decide) ?_
            refine r_geN (tgt := 56) hx hb i 7 rfl rfl (by omega) (by omega) dX7_wasShown_17 (by decide) (fun c2 => ?_) (fun c2 => ?_)
            · skip
              refine lv_iload_n hx hb dX7_wasShown_56 rfl (lv_at hl 2 rfl) ?_
              refine lv_if_eq (tgt := 62) hx hb dX7_wasShown_57 (by decide) (fun c3 => ?_) (fun c3 => ?_)
              · skip
                refine r_iincN (lv' := [(1, .int (nI (k + 1))), (0, .ref (L 0)), (2, .int x), (3, .int (nI i))]) hx hb k 1 rfl dX7_wasShown_62 hl (k := 1) rfl rfl (by decide) rfl (fun ls hl => ?_)
                refine lv_goto (tgt := 2) hx hb dX7_wasShown_65 (by decide) ?_
                exact ih2 (k + 1) (by omega) (by omega) (fun j hj => by rcases Nat.lt_succ_iff_lt_or_eq.mp hj with q | q; exact hno j q; subst q; rw [show i = 7 from by omega] at hB; rcases hB with ⟨g, -⟩ | ⟨-, g⟩; exact absurd (g.symm.trans c3) (by decide); exact g) _ _ _ hw (lv_sub hl [1, 0] rfl)
              · skip
                refine lv_iconst (v := 1) hx hb dX7_wasShown_60 (by decide) ?_
                exact r_ret X hw hk hret rfl (by rw [show i = 7 from by omega] at hB; rcases hB with ⟨-, g⟩ | ⟨g, -⟩; exact (bI_t ⟨k, by omega, g⟩).symm; exact absurd g c3) rfl dX7_wasShown_61
            · skip
              refine lv_iload_n hx hb dX7_wasShown_20 rfl (lv_at hl 2 rfl) ?_
              refine lv_if_eq (tgt := 48) hx hb dX7_wasShown_21 (by decide) (fun c4 => ?_) (fun c4 => ?_)
              · skip
                refine lv_iconst (v := 0) hx hb dX7_wasShown_48 (by decide) ?_
                refine lv_istore_n (lv' := [(2, .int 0), (0, .ref (L 0)), (1, .int (nI k)), (3, .int (nI i))]) hx hb dX7_wasShown_49 rfl hl (by decide) rfl (fun ls hl => ?_)
                refine r_iincN (lv' := [(3, .int (nI (i + 1))), (2, .int 0), (0, .ref (L 0)), (1, .int (nI k))]) hx hb i 1 rfl dX7_wasShown_50 hl (k := 3) rfl rfl (by decide) rfl (fun ls hl => ?_)
                refine lv_goto (tgt := 14) hx hb dX7_wasShown_53 (by decide) ?_
                exact ih14 (i + 1) 0 (by omega) (by omega) (bi_f0 hB c4) _ _ _ hw (lv_sub hl [2, 3, 1, 0] rfl)
              · skip
                refine lv_aload_n hx hb dX7_wasShown_24 rfl (lv_at hl 0 rfl) ?_
                refine r_get X hw (v := .ref (L 6)) fl_X7_25 (m_at 0 rfl) rfl dX7_wasShown_25 ?_
                refine lv_iload_n hx hb dX7_wasShown_28 rfl (lv_at hl 3 rfl) ?_
                refine r_iald X hw (f := td) i (m_at 6 rfl) rfl (by omega) (by decide) dX7_wasShown_29 ?_
                refine lv_aload_n hx hb dX7_wasShown_30 rfl (lv_at hl 0 rfl) ?_
                refine r_get X hw (v := .ref (L 8)) fl_X7_31 (m_at 0 rfl) rfl dX7_wasShown_31 ?_
                refine lv_bipush (v := 7) hx hb dX7_wasShown_34 (by decide) ?_
                refine lv_iload_n hx hb dX7_wasShown_36 rfl (lv_at hl 1 rfl) ?_
                refine r_mulN hx hb 7 k rfl rfl dX7_wasShown_37 ?_
                refine lv_iload_n hx hb dX7_wasShown_38 rfl (lv_at hl 3 rfl) ?_
                refine r_addN hx hb (7 * k) i rfl rfl dX7_wasShown_39 ?_
                refine r_iald X hw (f := sh) (7 * k + i) (m_at 8 rfl) rfl (by omega) (by decide) dX7_wasShown_40 ?_
                refine lv_icmp_ne (tgt := 48) hx hb dX7_wasShown_41 (by decide) (fun c5 => ?_) (fun c5 => ?_)
                · skip
                  refine lv_iconst (v := 0) hx hb dX7_wasShown_48 (by decide) ?_
                  refine lv_istore_n (lv' := [(2, .int 0), (0, .ref (L 0)), (1, .int (nI k)), (3, .int (nI i))]) hx hb dX7_wasShown_49 rfl hl (by decide) rfl (fun ls hl => ?_)
                  refine r_iincN (lv' := [(3, .int (nI (i + 1))), (2, .int 0), (0, .ref (L 0)), (1, .int (nI k))]) hx hb i 1 rfl dX7_wasShown_50 hl (k := 3) rfl rfl (by decide) rfl (fun ls hl => ?_)
                  refine lv_goto (tgt := 14) hx hb dX7_wasShown_53 (by decide) ?_
                  exact ih14 (i + 1) 0 (by omega) (by omega) (bi_f (x := x) c5) _ _ _ hw (lv_sub hl [2, 3, 1, 0] rfl)
                · skip
                  refine lv_iconst (v := 1) hx hb dX7_wasShown_44 (by decide) ?_
                  refine lv_goto (tgt := 49) hx hb dX7_wasShown_45 (by decide) ?_
                  refine lv_istore_n (lv' := [(2, .int 1), (0, .ref (L 0)), (1, .int (nI k)), (3, .int (nI i))]) hx hb dX7_wasShown_49 rfl hl (by decide) rfl (fun ls hl => ?_)
                  refine r_iincN (lv' := [(3, .int (nI (i + 1))), (2, .int 1), (0, .ref (L 0)), (1, .int (nI k))]) hx hb i 1 rfl dX7_wasShown_50 hl (k := 3) rfl rfl (by decide) rfl (fun ls hl => ?_)
                  refine lv_goto (tgt := 14) hx hb dX7_wasShown_53 (by decide) ?_
                  exact ih14 (i + 1) 1 (by omega) (by omega) (bi_t hB c4 c5) _ _ _ hw (lv_sub hl [2, 3, 1, 0] rfl)
        exact key14 8 0 1 (by omega) (by omega) bi_0 _ _ _ hw (lv_sub hl [2, 3, 1, 0] rfl)
  exact key2 (n + 1) 0 (by omega) (by omega) (fun j hj => absurd hj (Nat.not_lt_zero j)) _ _ _ hw (lv_sub hl [1, 0] rfl)
end
section
/-- the row, what is told, what was told ahead, what was shown, how often -/
abbrev BS : Type := Row × Row × Row × Row × Nat
noncomputable def agS (q : Nat) (x : BS) : BS := ((rdK x.1 x.2.1 x.2.2.2.1 q 7).1, (rdK x.1 x.2.1 x.2.2.2.1 q 7).2.1, va_cpy x.2.1 x.2.2.1 0 0 7, (rdK x.1 x.2.1 x.2.2.2.1 q 7).2.2.1, (rdK x.1 x.2.1 x.2.2.2.1 q 7).2.2.2)
noncomputable def agR (q : Nat) : Nat → Nat → BS → BS × Nat
  | 0, n, x => (x, n)
  | f + 1, n, x => if 5 ≤ n + 1 then (agS q x, n + 1) else (if sp_X7_isAsAhead (agS q x).2.1 (agS q x).2.2.1 = 0 then agR q f (n + 1) (agS q x) else (agS q x, n + 1))
noncomputable def rdB (s td ah sh : Row) (q : Nat) : BS := ((rdK s td sh q 7).1, (rdK s td sh q 7).2.1, ah, (rdK s td sh q 7).2.2.1, (rdK s td sh q 7).2.2.2)
theorem rdK_7 {s : Row} (td sh : Row) {p z q : Nat} (h : rOK s p z q) : (∃ p', rOK (rdK s td sh q 7).1 p' z q) ∧ (rdK s td sh q 7).2.2.2 ≤ 13 := by
  obtain ⟨p', h1, -, -, h2⟩ := rdK_ok (td := td) (sh := sh) h 7 (by omega)
  exact ⟨⟨p', h1⟩, h2⟩
theorem agR_ok {z q : Nat} : ∀ (f n : Nat) (x : BS) {p : Nat}, rOK x.1 p z q → x.2.2.2.2 ≤ 13 → (∃ p', rOK (agR q f n x).1.1 p' z q) ∧ (agR q f n x).1.2.2.2.2 ≤ 13
  | 0, n, x, p, h, h2 => ⟨⟨p, h⟩, h2⟩
  | f + 1, n, x, p, h, h2 => by
    have g := rdK_7 x.2.1 x.2.2.2.1 h
    obtain ⟨⟨p', g1⟩, g2⟩ := g
    have k : (∃ p', rOK (agS q x).1 p' z q) ∧ (agS q x).2.2.2.2 ≤ 13 := ⟨⟨p', g1⟩, g2⟩
    unfold agR
    by_cases c1 : 5 ≤ n + 1
    · rw [if_pos c1]; exact k
    · rw [if_neg c1]
      by_cases c2 : sp_X7_isAsAhead (agS q x).2.1 (agS q x).2.2.1 = 0
      · rw [if_pos c2]; exact agR_ok f (n + 1) (agS q x) g1 g2
      · rw [if_neg c2]; exact k
/-- what a burst of a mode reads, and how many it takes -/
noncomputable def buR (s td ah sh : Row) (q md : Nat) : BS × Nat := if md = 0 then (rdB s td ah sh q, 1) else (if md = 1 then ((phF s (7 * q), va_cpy s td 0 0 7, ah, va_cpy s sh 0 (7 * 0) 7, 1), 1) else agR q 4 1 (rdB s td ah sh q))
theorem buR_ok {s : Row} (td ah sh : Row) {p z q : Nat} (h : rOK s p z q) (md : Nat) : (∃ p', rOK (buR s td ah sh q md).1.1 p' z q) ∧ (buR s td ah sh q md).1.2.2.2.2 ≤ 13 := by
  unfold buR
  by_cases c1 : md = 0
  · rw [if_pos c1]; exact rdK_7 td sh h
  · rw [if_neg c1]
    by_cases c2 : md = 1
    · rw [if_pos c2]; exact ⟨phF_ok (7 * q) h, by show 1 ≤ 13; decide⟩
    · rw [if_neg c2]
      obtain ⟨⟨p', g1⟩, g2⟩ := rdK_7 td sh h
      exact agR_ok 4 1 (rdB s td ah sh q) g1 g2
noncomputable def bL3 (x : Row) : Row := upd x 36 (if 6 ≤ x 36 then x 36 + 0 else x 36 + 1)
/-- a burst is logged: mode, torn, how many -/
noncomputable def bLog (s td : Row) (md tn mk : Int32) : Row := upd (upd (bL3 (upd (upd (upd (va_cpy td (va_cpy s s 67 77 50) 0 67 7) 74 md) 75 tn) 76 mk)) 31 ((bL3 (upd (upd (upd (va_cpy td (va_cpy s s 67 77 50) 0 67 7) 74 md) 75 tn) 76 mk)) 31 + 1)) 32 ((upd (bL3 (upd (upd (upd (va_cpy td (va_cpy s s 67 77 50) 0 67 7) 74 md) 75 tn) 76 mk)) 31 ((bL3 (upd (upd (upd (va_cpy td (va_cpy s s 67 77 50) 0 67 7) 74 md) 75 tn) 76 mk)) 31 + 1)) 32 + tn)
noncomputable def bTorn (x : BS) : Int32 := if sp_X7_wasShown x.2.1 x.2.2.2.1 x.2.2.2.2 = 0 then 1 else 0
noncomputable def buS (s td ah sh : Row) (q md : Nat) : Row := bLog (buR s td ah sh q md).1.1 (buR s td ah sh q md).1.2.1 (nI md) (bTorn (buR s td ah sh q md).1) (nI (buR s td ah sh q md).2)

set_option maxRecDepth 100000 in
set_option maxHeartbeats 4000000 in
theorem c_X7_readsAgain (l : Launch) (D : va_G) (sz : Nat) (L : Nat → Nat) (s pa : Row) (P ru : Int32) (td ah sh : Row) (n0 : Int32) (S8 : MT8) (pp z q : Nat) (hok : rOK s pp z q) : MI l yX7_readsAgain cX7_readsAgain 4 (some .int) 12 261 D sz [.ref (L 0)] (mW D L (s, pa, P, ru, td, ah, sh, n0, S8)) (nI (agR q 4 1 (rdB s td ah sh q)).2) (mW D L ((agR q 4 1 (rdB s td ah sh q)).1.1, pa, P, ru, (agR q 4 1 (rdB s td ah sh q)).1.2.1, (agR q 4 1 (rdB s td ah sh q)).1.2.2.1, (agR q 4 1 (rdB s td ah sh q)).1.2.2.2.1, nI (agR q 4 1 (rdB s td ah sh q)).1.2.2.2.2, S8)) := by
  refine r_enterI (by decide) (Nat.le_of_ble_eq_true rfl) ?_
  intro p e st m args below meth c ls A X hret hk hw hl
  have X : CX D p m c cX7_readsAgain 4 st args RX7 A := X
  have hx := X.1.1
  have hb := X.1.2.1
  have hown := X.1.2.2.2.1
  have hts := X.1.2.2.2.2
  have hl : lv_has ls 4 [(0, .ref (L 0))] := hl
  obtain ⟨fin, hfin⟩ : ∃ y, y = agR q 4 1 (rdB s td ah sh q) := ⟨_, rfl⟩
  obtain ⟨⟨p1, hok1⟩, -⟩ := rdK_7 td sh hok
  refine lv_iconst (v := 1) hx hb dX7_readsAgain_0 (by decide) ?_
  refine lv_istore_n (lv' := [(1, .int 1), (0, .ref (L 0))]) hx hb dX7_readsAgain_1 rfl hl (by decide) rfl (fun ls hl => ?_)
  refine lv_aload_n hx hb dX7_readsAgain_2 rfl (lv_at hl 1 rfl) ?_
  refine r_callVv X hw (ws' := mW D L ((rdK s td sh q 7).1, pa, P, ru, (rdK s td sh q 7).2.1, ah, (rdK s td sh q 7).2.2.1, nI (rdK s td sh q 7).2.2.2, S8)) (As := []) (rest := []) lk_X7_119 (c_X7_readsAll l D _ L s pa P ru td ah sh n0 S8 pp z q hok) Foc.all (m_at 0 rfl) rfl hl.1 (Nat.le_of_ble_eq_true rfl) ⟨Nat.le_of_ble_eq_true rfl, Nat.le_of_ble_eq_true rfl⟩ rfl dX7_readsAgain_3 ⟨Nat.le_refl _, Nat.le_refl _⟩ (fun H locs hw => ?_)
  refine lv_iconst (v := 1) hx hb dX7_readsAgain_6 (by decide) ?_
  refine lv_istore_n (lv' := [(2, .int 1), (1, .int 1), (0, .ref (L 0))]) hx hb dX7_readsAgain_7 rfl hl (by decide) rfl (fun ls hl => ?_)
  have key8 : ∀ (n8 : Nat) (n p1 : Nat) (x : BS), (1 ≤ n) → (n ≤ 4) → (5 - n < n8) → (rOK x.1 p1 z q) → (agR q (5 - n) n x = fin) → ∀ (H : Heap) (locs : List Loc) (ls : Array Slot), Wd D A st.heap H locs (mW D L (x.1, pa, P, ru, x.2.1, x.2.2.1, x.2.2.2.1, nI x.2.2.2.2, S8)) → lv_has ls 4 [(0, .ref (L 0)), (1, .int (nI n)), (2, .int 1)] → W p l e (rmOf 12 0 0 261) st m args below meth c H locs 0 0 (QI below args st D A (nI (agR q 4 1 (rdB s td ah sh q)).2) (mW D L ((agR q 4 1 (rdB s td ah sh q)).1.1, pa, P, ru, (agR q 4 1 (rdB s td ah sh q)).1.2.1, (agR q 4 1 (rdB s td ah sh q)).1.2.2.1, (agR q 4 1 (rdB s td ah sh q)).1.2.2.2.1, nI (agR q 4 1 (rdB s td ah sh q)).1.2.2.2.2, S8))) (F0 m 8 ls []) := by
    intro n8
    induction n8 with
    | zero => intro n p1 x hn1 hn4 hm hok1 hq; omega
    | succ n8 ih8 =>
      intro n p1 x hn1 hn4 hm hok1 hq H locs ls hw hl
      obtain ⟨⟨p2, hok2⟩, -⟩ := rdK_7 x.2.1 x.2.2.2.1 hok1
      refine lv_iload_n hx hb dX7_readsAgain_8 rfl (lv_at hl 2 rfl) ?_
      refine lv_if_eq (tgt := 66) hx hb dX7_readsAgain_9 (by decide) (fun h => absurd h (by decide)) (fun _ => ?_)
      refine lv_iconst (v := 0) hx hb dX7_readsAgain_12 (by decide) ?_
      refine lv_istore_n (lv' := [(3, .int 0), (0, .ref (L 0)), (1, .int (nI n)), (2, .int 1)]) hx hb dX7_readsAgain_13 rfl hl (by decide) rfl (fun ls hl => ?_)
      have key14 : ∀ (n14 : Nat) (i : Nat), (i ≤ 7) → (7 - i < n14) → ∀ (H : Heap) (locs : List Loc) (ls : Array Slot), Wd D A st.heap H locs (mW D L (x.1, pa, P, ru, x.2.1, va_cpy x.2.1 x.2.2.1 0 0 i, x.2.2.2.1, nI x.2.2.2.2, S8)) → lv_has ls 4 [(0, .ref (L 0)), (1, .int (nI n)), (2, .int 1), (3, .int (nI i))] → W p l e (rmOf 12 0 0 261) st m args below meth c H locs 0 0 (QI below args st D A (nI (agR q 4 1 (rdB s td ah sh q)).2) (mW D L ((agR q 4 1 (rdB s td ah sh q)).1.1, pa, P, ru, (agR q 4 1 (rdB s td ah sh q)).1.2.1, (agR q 4 1 (rdB s td ah sh q)).1.2.2.1, (agR q 4 1 (rdB s td ah sh q)).1.2.2.2.1, nI (agR q 4 1 (rdB s td ah sh q)).1.2.2.2.2, S8))) (F0 m 14 ls []) := by
        intro n14
        induction n14 with
        | zero => intro i hi hm2; omega
        | succ n14 ih14 =>
          intro i hi hm2 H locs ls hw hl
          refine lv_iload_n hx hb dX7_readsAgain_14 rfl (lv_at hl 3 rfl) ?_
          refine lv_bipush (v := 7) hx hb dX7_readsAgain_15 (by decide) ?_
          refine r_geN (tgt := 38) hx hb i 7 rfl rfl (by omega) (by omega) dX7_readsAgain_17 (by decide) (fun c1 => ?_) (fun c1 => ?_)
          · skip
            refine lv_aload_n hx hb dX7_readsAgain_38 rfl (lv_at hl 0 rfl) ?_
            have hi7 : i = 7 := by omega
            subst hi7
            refine r_callVv X hw (ws' := mW D L ((rdK x.1 x.2.1 x.2.2.2.1 q 7).1, pa, P, ru, (rdK x.1 x.2.1 x.2.2.2.1 q 7).2.1, va_cpy x.2.1 x.2.2.1 0 0 7, (rdK x.1 x.2.1 x.2.2.2.1 q 7).2.2.1, nI (rdK x.1 x.2.1 x.2.2.2.1 q 7).2.2.2, S8)) (As := []) (rest := []) lk_X7_119 (c_X7_readsAll l D _ L x.1 pa P ru x.2.1 (va_cpy x.2.1 x.2.2.1 0 0 7) x.2.2.2.1 (nI x.2.2.2.2) S8 p1 z q hok1) Foc.all (m_at 0 rfl) rfl hl.1 (Nat.le_of_ble_eq_true rfl) ⟨Nat.le_of_ble_eq_true rfl, Nat.le_of_ble_eq_true rfl⟩ rfl dX7_readsAgain_39 ⟨Nat.le_refl _, Nat.le_refl _⟩ (fun H locs hw => ?_)
            refine r_iincN (lv' := [(1, .int (nI (n + 1))), (0, .ref (L 0)), (2, .int 1), (3, .int 7)]) hx hb n 1 rfl dX7_readsAgain_42 hl (k := 1) rfl rfl (by decide) rfl (fun ls hl => ?_)
            refine lv_iload_n hx hb dX7_readsAgain_45 rfl (lv_at hl 0 rfl) ?_
            refine lv_iconst (v := 5) hx hb dX7_readsAgain_46 (by decide) ?_
            refine r_geN (tgt := 61) hx hb (n + 1) 5 rfl rfl (by omega) (by omega) dX7_readsAgain_47 (by decide) (fun c2 => ?_) (fun c2 => ?_)
            · skip
              refine lv_iconst (v := 0) hx hb dX7_readsAgain_61 (by decide) ?_
              refine lv_istore_n (lv' := [(2, .int 0), (1, .int (nI (n + 1))), (0, .ref (L 0)), (3, .int 7)]) hx hb dX7_readsAgain_62 rfl hl (by decide) rfl (fun ls hl => ?_)
              refine lv_goto (tgt := 8) hx hb dX7_readsAgain_63 (by decide) ?_
              refine lv_iload_n hx hb dX7_readsAgain_8 rfl (lv_at hl 0 rfl) ?_
              refine lv_if_eq (tgt := 66) hx hb dX7_readsAgain_9 (by decide) (fun _ => ?_) (fun h => absurd (by decide) h)
              refine lv_iload_n hx hb dX7_readsAgain_66 rfl (lv_at hl 1 rfl) ?_
              exact r_ret X hw hk hret rfl (by rw [show 5 - n = (5 - (n + 1)) + 1 from by omega] at hq; unfold agR agS at hq; dsimp only at hq; rw [if_pos c2] at hq; rw [← hfin, ← hq]) (by rw [show 5 - n = (5 - (n + 1)) + 1 from by omega] at hq; unfold agR agS at hq; dsimp only at hq; rw [if_pos c2] at hq; rw [← hfin, ← hq]) dX7_readsAgain_67
            · skip
              refine lv_aload_n hx hb dX7_readsAgain_50 rfl (lv_at hl 1 rfl) ?_
              refine r_callV X hw (ws' := mW D L ((rdK x.1 x.2.1 x.2.2.2.1 q 7).1, pa, P, ru, (rdK x.1 x.2.1 x.2.2.2.1 q 7).2.1, va_cpy x.2.1 x.2.2.1 0 0 7, (rdK x.1 x.2.1 x.2.2.2.1 q 7).2.2.1, nI (rdK x.1 x.2.1 x.2.2.2.1 q 7).2.2.2, S8)) (As := []) (rest := []) lk_X7_122 (c_X7_isAsAhead l D _ L ((rdK x.1 x.2.1 x.2.2.2.1 q 7).1) pa P ru ((rdK x.1 x.2.1 x.2.2.2.1 q 7).2.1) (va_cpy x.2.1 x.2.2.1 0 0 7) ((rdK x.1 x.2.1 x.2.2.2.1 q 7).2.2.1) (nI (rdK x.1 x.2.1 x.2.2.2.1 q 7).2.2.2) S8) Foc.all (m_at 0 rfl) rfl hl.1 (Nat.le_of_ble_eq_true rfl) ⟨Nat.le_of_ble_eq_true rfl, Nat.le_of_ble_eq_true rfl⟩ rfl dX7_readsAgain_51 ⟨Nat.le_refl _, Nat.le_refl _⟩ (fun H locs hw => ?_)
              refine lv_if_ne (tgt := 61) hx hb dX7_readsAgain_54 (by decide) (fun c3 => ?_) (fun c3 => ?_)
              · skip
                refine lv_iconst (v := 0) hx hb dX7_readsAgain_61 (by decide) ?_
                refine lv_istore_n (lv' := [(2, .int 0), (1, .int (nI (n + 1))), (0, .ref (L 0)), (3, .int 7)]) hx hb dX7_readsAgain_62 rfl hl (by decide) rfl (fun ls hl => ?_)
                refine lv_goto (tgt := 8) hx hb dX7_readsAgain_63 (by decide) ?_
                refine lv_iload_n hx hb dX7_readsAgain_8 rfl (lv_at hl 0 rfl) ?_
                refine lv_if_eq (tgt := 66) hx hb dX7_readsAgain_9 (by decide) (fun _ => ?_) (fun h => absurd (by decide) h)
                refine lv_iload_n hx hb dX7_readsAgain_66 rfl (lv_at hl 1 rfl) ?_
                exact r_ret X hw hk hret rfl (by rw [show 5 - n = (5 - (n + 1)) + 1 from by omega] at hq; unfold agR agS at hq; dsimp only at hq; rw [if_neg (Nat.not_le.mpr c2)] at hq; rw [if_neg c3] at hq; rw [← hfin, ← hq]) (by rw [show 5 - n = (5 - (n + 1)) + 1 from by omega] at hq; unfold agR agS at hq; dsimp only at hq; rw [if_neg (Nat.not_le.mpr c2)] at hq; rw [if_neg c3] at hq; rw [← hfin, ← hq]) dX7_readsAgain_67
              · skip
                refine lv_iconst (v := 1) hx hb dX7_readsAgain_57 (by decide) ?_
                refine lv_goto (tgt := 62) hx hb dX7_readsAgain_58 (by decide) ?_
                refine lv_istore_n (lv' := [(2, .int 1), (1, .int (nI (n + 1))), (0, .ref (L 0)), (3, .int 7)]) hx hb dX7_readsAgain_62 rfl hl (by decide) rfl (fun ls hl => ?_)
                refine lv_goto (tgt := 8) hx hb dX7_readsAgain_63 (by decide) ?_
                exact ih8 (n + 1) p2 (agS q x) (by omega) (by omega) (by omega) hok2 (by rw [show 5 - n = (5 - (n + 1)) + 1 from by omega] at hq; unfold agR agS at hq; dsimp only at hq; rw [if_neg (Nat.not_le.mpr c2)] at hq; rw [if_pos c3] at hq; exact hq) _ _ _ hw (lv_sub hl [2, 1, 0] rfl)
          · skip
            refine lv_aload_n hx hb dX7_readsAgain_20 rfl (lv_at hl 0 rfl) ?_
            refine r_get X hw (v := .ref (L 7)) fl_X7_28 (m_at 0 rfl) rfl dX7_readsAgain_21 ?_
            refine lv_iload_n hx hb dX7_readsAgain_24 rfl (lv_at hl 3 rfl) ?_
            refine lv_aload_n hx hb dX7_readsAgain_25 rfl (lv_at hl 0 rfl) ?_
            refine r_get X hw (v := .ref (L 6)) fl_X7_25 (m_at 0 rfl) rfl dX7_readsAgain_26 ?_
            refine lv_iload_n hx hb dX7_readsAgain_29 rfl (lv_at hl 3 rfl) ?_
            refine r_iald X hw (f := x.2.1) i (m_at 6 rfl) rfl (by omega) (by decide) dX7_readsAgain_30 ?_
            refine r_iast X hw (ws' := mW D L (x.1, pa, P, ru, x.2.1, upd (va_cpy x.2.1 x.2.2.1 0 0 i) i (x.2.1 i), x.2.2.2.1, nI x.2.2.2.2, S8)) i rfl (by omega) (by decide) (Foc.cell 7 rfl rfl rfl) dX7_readsAgain_31 (fun H locs hw => ?_)
            refine r_iincN (lv' := [(3, .int (nI (i + 1))), (0, .ref (L 0)), (1, .int (nI n)), (2, .int 1)]) hx hb i 1 rfl dX7_readsAgain_32 hl (k := 3) rfl rfl (by decide) rfl (fun ls hl => ?_)
            refine lv_goto (tgt := 14) hx hb dX7_readsAgain_35 (by decide) ?_
            exact ih14 (i + 1) (by omega) (by omega) _ _ _ (by rw [← cpy_step00]; exact hw) (lv_sub hl [1, 2, 3, 0] rfl)
      exact key14 8 0 (by omega) (by omega) _ _ _ (by rw [cpy_0]; exact hw) (lv_sub hl [1, 2, 3, 0] rfl)
  exact key8 5 1 p1 (rdB s td ah sh q) (by omega) (by omega) (by omega) hok1 hfin.symm _ _ _ hw (lv_sub hl [2, 1, 0] rfl)

set_option maxRecDepth 100000 in
set_option maxHeartbeats 4000000 in
theorem c_X7_bursts (l : Launch) (D : va_G) (sz : Nat) (L : Nat → Nat) (s pa : Row) (P ru : Int32) (td ah sh : Row) (n0 : Int32) (S8 : MT8) (pp z q md : Nat) (hok : rOK s pp z q) (hmd : md < 3) : MI l yX7_bursts cX7_bursts 5 (some .int) 13 284 D sz [.ref (L 0), .int (nI md)] (mW D L (s, pa, P, ru, td, ah, sh, n0, S8)) (bTorn (buR s td ah sh q md).1) (mW D L (buS s td ah sh q md, pa, P, ru, (buR s td ah sh q md).1.2.1, (buR s td ah sh q md).1.2.2.1, (buR s td ah sh q md).1.2.2.2.1, nI (buR s td ah sh q md).1.2.2.2.2, S8)) := by
  refine r_enterI (by decide) (Nat.le_of_ble_eq_true rfl) ?_
  intro p e st m args below meth c ls A X hret hk hw hl
  have X : CX D p m c cX7_bursts 5 st args RX7 A := X
  have hx := X.1.1
  have hb := X.1.2.1
  have hown := X.1.2.2.2.1
  have hts := X.1.2.2.2.2
  have hl : lv_has ls 5 [(0, .ref (L 0)), (1, .int (nI md))] := hl
  have cut43 : ∀ (x : BS) (made : Nat) (tn : Int32), (buR s td ah sh q md = (x, made)) → (tn = bTorn x) → ∀ (H : Heap) (locs : List Loc) (ls : Array Slot), Wd D A st.heap H locs (mW D L (x.1, pa, P, ru, x.2.1, x.2.2.1, x.2.2.2.1, nI x.2.2.2.2, S8)) → lv_has ls 5 [(0, .ref (L 0)), (1, .int (nI md)), (2, .int (nI made)), (3, .int tn)] → W p l e (rmOf 13 0 0 284) st m args below meth c H locs 0 0 (QI below args st D A (bTorn (buR s td ah sh q md).1) (mW D L (buS s td ah sh q md, pa, P, ru, (buR s td ah sh q md).1.2.1, (buR s td ah sh q md).1.2.2.1, (buR s td ah sh q md).1.2.2.2.1, nI (buR s td ah sh q md).1.2.2.2.2, S8))) (F0 m 43 ls []) := by
    intro x made tn hx9 htn H locs ls hw hl
    refine lv_bipush (v := 59) hx hb dX7_bursts_43 (by decide) ?_
    refine lv_istore (lv' := [(4, .int 59), (0, .ref (L 0)), (1, .int (nI md)), (2, .int (nI made)), (3, .int tn)]) hx hb dX7_bursts_45 hl (by decide) rfl (fun ls hl => ?_)
    have key47 : ∀ (n47 : Nat) (k : Nat), (k ≤ 59) → (9 ≤ k) → (k < n47) → ∀ (H : Heap) (locs : List Loc) (ls : Array Slot), Wd D A st.heap H locs (mW D L (va_cpy x.1 x.1 (57 + (k + 1)) (67 + (k + 1)) (60 - (k + 1)), pa, P, ru, x.2.1, x.2.2.1, x.2.2.2.1, nI x.2.2.2.2, S8)) → lv_has ls 5 [(0, .ref (L 0)), (1, .int (nI md)), (2, .int (nI made)), (3, .int tn), (4, .int (nI k))] → W p l e (rmOf 13 0 0 284) st m args below meth c H locs 0 0 (QI below args st D A (bTorn (buR s td ah sh q md).1) (mW D L (buS s td ah sh q md, pa, P, ru, (buR s td ah sh q md).1.2.1, (buR s td ah sh q md).1.2.2.1, (buR s td ah sh q md).1.2.2.2.1, nI (buR s td ah sh q md).1.2.2.2.2, S8))) (F0 m 47 ls []) := by
      intro n47
      induction n47 with
      | zero => intro k hk59 hk9 hm; omega
      | succ n47 ih47 =>
        intro k hk59 hk9 hm H locs ls hw hl
        refine lv_iload hx hb dX7_bursts_47 (lv_at hl 4 rfl) ?_
        refine lv_bipush (v := 10) hx hb dX7_bursts_49 (by decide) ?_
        refine r_ltN (tgt := 83) hx hb k 10 rfl rfl (by omega) (by omega) dX7_bursts_51 (by decide) (fun c1 => ?_) (fun c1 => ?_)
        · skip
          have hk9 : k = 9 := by omega
          subst hk9
          refine lv_iconst (v := 0) hx hb dX7_bursts_83 (by decide) ?_
          refine lv_istore (lv' := [(4, .int 0), (0, .ref (L 0)), (1, .int (nI md)), (2, .int (nI made)), (3, .int tn)]) hx hb dX7_bursts_84 hl (by decide) rfl (fun ls hl => ?_)
          have key86 : ∀ (n86 : Nat) (i : Nat), (i ≤ 7) → (7 - i < n86) → ∀ (H : Heap) (locs : List Loc) (ls : Array Slot), Wd D A st.heap H locs (mW D L (va_cpy x.2.1 (va_cpy x.1 x.1 67 77 50) 0 67 i, pa, P, ru, x.2.1, x.2.2.1, x.2.2.2.1, nI x.2.2.2.2, S8)) → lv_has ls 5 [(0, .ref (L 0)), (1, .int (nI md)), (2, .int (nI made)), (3, .int tn), (4, .int (nI i))] → W p l e (rmOf 13 0 0 284) st m args below meth c H locs 0 0 (QI below args st D A (bTorn (buR s td ah sh q md).1) (mW D L (buS s td ah sh q md, pa, P, ru, (buR s td ah sh q md).1.2.1, (buR s td ah sh q md).1.2.2.1, (buR s td ah sh q md).1.2.2.2.1, nI (buR s td ah sh q md).1.2.2.2.2, S8))) (F0 m 86 ls []) := by
            intro n86
            induction n86 with
            | zero => intro i hi hm2; omega
            | succ n86 ih86 =>
              intro i hi hm2 H locs ls hw hl
              refine lv_iload hx hb dX7_bursts_86 (lv_at hl 4 rfl) ?_
              refine lv_bipush (v := 7) hx hb dX7_bursts_88 (by decide) ?_
              refine r_geN (tgt := 116) hx hb i 7 rfl rfl (by omega) (by omega) dX7_bursts_90 (by decide) (fun c2 => ?_) (fun c2 => ?_)
              · skip
                have hi7 : i = 7 := by omega
                subst hi7
                refine lv_aload_n hx hb dX7_bursts_116 rfl (lv_at hl 0 rfl) ?_
                refine r_get X hw (v := .ref (L 1)) fl_X7_7 (m_at 0 rfl) rfl dX7_bursts_117 ?_
                refine lv_bipush (v := 74) hx hb dX7_bursts_120 (by decide) ?_
                refine lv_iload_n hx hb dX7_bursts_122 rfl (lv_at hl 1 rfl) ?_
                refine r_iast X hw (ws' := mW D L (upd (va_cpy x.2.1 (va_cpy x.1 x.1 67 77 50) 0 67 7) 74 (nI md), pa, P, ru, x.2.1, x.2.2.1, x.2.2.2.1, nI x.2.2.2.2, S8)) 74 rfl (by decide) (by decide) (Foc.cell 1 rfl rfl rfl) dX7_bursts_123 (fun H locs hw => ?_)
                refine lv_aload_n hx hb dX7_bursts_124 rfl (lv_at hl 0 rfl) ?_
                refine r_get X hw (v := .ref (L 1)) fl_X7_7 (m_at 0 rfl) rfl dX7_bursts_125 ?_
                refine lv_bipush (v := 75) hx hb dX7_bursts_128 (by decide) ?_
                refine lv_iload_n hx hb dX7_bursts_130 rfl (lv_at hl 3 rfl) ?_
                refine r_iast X hw (ws' := mW D L (upd (upd (va_cpy x.2.1 (va_cpy x.1 x.1 67 77 50) 0 67 7) 74 (nI md)) 75 tn, pa, P, ru, x.2.1, x.2.2.1, x.2.2.2.1, nI x.2.2.2.2, S8)) 75 rfl (by decide) (by decide) (Foc.cell 1 rfl rfl rfl) dX7_bursts_131 (fun H locs hw => ?_)
                refine lv_aload_n hx hb dX7_bursts_132 rfl (lv_at hl 0 rfl) ?_
                refine r_get X hw (v := .ref (L 1)) fl_X7_7 (m_at 0 rfl) rfl dX7_bursts_133 ?_
                refine lv_bipush (v := 76) hx hb dX7_bursts_136 (by decide) ?_
                refine lv_iload_n hx hb dX7_bursts_138 rfl (lv_at hl 2 rfl) ?_
                refine r_iast X hw (ws' := mW D L (upd (upd (upd (va_cpy x.2.1 (va_cpy x.1 x.1 67 77 50) 0 67 7) 74 (nI md)) 75 tn) 76 (nI made), pa, P, ru, x.2.1, x.2.2.1, x.2.2.2.1, nI x.2.2.2.2, S8)) 76 rfl (by decide) (by decide) (Foc.cell 1 rfl rfl rfl) dX7_bursts_139 (fun H locs hw => ?_)
                refine lv_aload_n hx hb dX7_bursts_140 rfl (lv_at hl 0 rfl) ?_
                refine r_get X hw (v := .ref (L 1)) fl_X7_7 (m_at 0 rfl) rfl dX7_bursts_141 ?_
                refine lv_bipush (v := 36) hx hb dX7_bursts_144 (by decide) ?_
                refine lv_dup2_11 hx hb dX7_bursts_146 rfl rfl ?_
                refine r_iald X hw (f := upd (upd (upd (va_cpy x.2.1 (va_cpy x.1 x.1 67 77 50) 0 67 7) 74 (nI md)) 75 tn) 76 (nI made)) 36 (m_at 1 rfl) rfl (by decide) (by decide) dX7_bursts_147 ?_
                refine lv_aload_n hx hb dX7_bursts_148 rfl (lv_at hl 0 rfl) ?_
                refine r_get X hw (v := .ref (L 1)) fl_X7_7 (m_at 0 rfl) rfl dX7_bursts_149 ?_
                refine lv_bipush (v := 36) hx hb dX7_bursts_152 (by decide) ?_
                refine r_iald X hw (f := upd (upd (upd (va_cpy x.2.1 (va_cpy x.1 x.1 67 77 50) 0 67 7) 74 (nI md)) 75 tn) 76 (nI made)) 36 (m_at 1 rfl) rfl (by decide) (by decide) dX7_bursts_154 ?_
                refine lv_bipush (v := 6) hx hb dX7_bursts_155 (by decide) ?_
                refine lv_icmp_ge (tgt := 164) hx hb dX7_bursts_157 (by decide) (fun c3 => ?_) (fun c3 => ?_)
                · skip
                  refine lv_iconst (v := 0) hx hb dX7_bursts_164 (by decide) ?_
                  refine lv_iadd hx hb dX7_bursts_165 ?_
                  refine r_iast X hw (ws' := mW D L (upd (upd (upd (upd (va_cpy x.2.1 (va_cpy x.1 x.1 67 77 50) 0 67 7) 74 (nI md)) 75 tn) 76 (nI made)) 36 (((upd (upd (upd (va_cpy x.2.1 (va_cpy x.1 x.1 67 77 50) 0 67 7) 74 (nI md)) 75 tn) 76 (nI made)) 36) + 0), pa, P, ru, x.2.1, x.2.2.1, x.2.2.2.1, nI x.2.2.2.2, S8)) 36 rfl (by decide) (by decide) (Foc.cell 1 rfl rfl rfl) dX7_bursts_166 (fun H locs hw => ?_)
                  refine lv_aload_n hx hb dX7_bursts_167 rfl (lv_at hl 0 rfl) ?_
                  refine r_get X hw (v := .ref (L 1)) fl_X7_7 (m_at 0 rfl) rfl dX7_bursts_168 ?_
                  refine lv_bipush (v := 31) hx hb dX7_bursts_171 (by decide) ?_
                  refine lv_dup2_11 hx hb dX7_bursts_173 rfl rfl ?_
                  refine r_iald X hw (f := upd (upd (upd (upd (va_cpy x.2.1 (va_cpy x.1 x.1 67 77 50) 0 67 7) 74 (nI md)) 75 tn) 76 (nI made)) 36 (((upd (upd (upd (va_cpy x.2.1 (va_cpy x.1 x.1 67 77 50) 0 67 7) 74 (nI md)) 75 tn) 76 (nI made)) 36) + 0)) 31 (m_at 1 rfl) rfl (by decide) (by decide) dX7_bursts_174 ?_
                  refine lv_iconst (v := 1) hx hb dX7_bursts_175 (by decide) ?_
                  refine lv_iadd hx hb dX7_bursts_176 ?_
                  refine r_iast X hw (ws' := mW D L (upd (upd (upd (upd (upd (va_cpy x.2.1 (va_cpy x.1 x.1 67 77 50) 0 67 7) 74 (nI md)) 75 tn) 76 (nI made)) 36 (((upd (upd (upd (va_cpy x.2.1 (va_cpy x.1 x.1 67 77 50) 0 67 7) 74 (nI md)) 75 tn) 76 (nI made)) 36) + 0)) 31 (((upd (upd (upd (upd (va_cpy x.2.1 (va_cpy x.1 x.1 67 77 50) 0 67 7) 74 (nI md)) 75 tn) 76 (nI made)) 36 (((upd (upd (upd (va_cpy x.2.1 (va_cpy x.1 x.1 67 77 50) 0 67 7) 74 (nI md)) 75 tn) 76 (nI made)) 36) + 0)) 31) + 1), pa, P, ru, x.2.1, x.2.2.1, x.2.2.2.1, nI x.2.2.2.2, S8)) 31 rfl (by decide) (by decide) (Foc.cell 1 rfl rfl rfl) dX7_bursts_177 (fun H locs hw => ?_)
                  refine lv_aload_n hx hb dX7_bursts_178 rfl (lv_at hl 0 rfl) ?_
                  refine r_get X hw (v := .ref (L 1)) fl_X7_7 (m_at 0 rfl) rfl dX7_bursts_179 ?_
                  refine lv_bipush (v := 32) hx hb dX7_bursts_182 (by decide) ?_
                  refine lv_dup2_11 hx hb dX7_bursts_184 rfl rfl ?_
                  refine r_iald X hw (f := upd (upd (upd (upd (upd (va_cpy x.2.1 (va_cpy x.1 x.1 67 77 50) 0 67 7) 74 (nI md)) 75 tn) 76 (nI made)) 36 (((upd (upd (upd (va_cpy x.2.1 (va_cpy x.1 x.1 67 77 50) 0 67 7) 74 (nI md)) 75 tn) 76 (nI made)) 36) + 0)) 31 (((upd (upd (upd (upd (va_cpy x.2.1 (va_cpy x.1 x.1 67 77 50) 0 67 7) 74 (nI md)) 75 tn) 76 (nI made)) 36 (((upd (upd (upd (va_cpy x.2.1 (va_cpy x.1 x.1 67 77 50) 0 67 7) 74 (nI md)) 75 tn) 76 (nI made)) 36) + 0)) 31) + 1)) 32 (m_at 1 rfl) rfl (by decide) (by decide) dX7_bursts_185 ?_
                  refine lv_iload_n hx hb dX7_bursts_186 rfl (lv_at hl 3 rfl) ?_
                  refine lv_iadd hx hb dX7_bursts_187 ?_
                  refine r_iast X hw (ws' := mW D L (upd (upd (upd (upd (upd (upd (va_cpy x.2.1 (va_cpy x.1 x.1 67 77 50) 0 67 7) 74 (nI md)) 75 tn) 76 (nI made)) 36 (((upd (upd (upd (va_cpy x.2.1 (va_cpy x.1 x.1 67 77 50) 0 67 7) 74 (nI md)) 75 tn) 76 (nI made)) 36) + 0)) 31 (((upd (upd (upd (upd (va_cpy x.2.1 (va_cpy x.1 x.1 67 77 50) 0 67 7) 74 (nI md)) 75 tn) 76 (nI made)) 36 (((upd (upd (upd (va_cpy x.2.1 (va_cpy x.1 x.1 67 77 50) 0 67 7) 74 (nI md)) 75 tn) 76 (nI made)) 36) + 0)) 31) + 1)) 32 (((upd (upd (upd (upd (upd (va_cpy x.2.1 (va_cpy x.1 x.1 67 77 50) 0 67 7) 74 (nI md)) 75 tn) 76 (nI made)) 36 (((upd (upd (upd (va_cpy x.2.1 (va_cpy x.1 x.1 67 77 50) 0 67 7) 74 (nI md)) 75 tn) 76 (nI made)) 36) + 0)) 31 (((upd (upd (upd (upd (va_cpy x.2.1 (va_cpy x.1 x.1 67 77 50) 0 67 7) 74 (nI md)) 75 tn) 76 (nI made)) 36 (((upd (upd (upd (va_cpy x.2.1 (va_cpy x.1 x.1 67 77 50) 0 67 7) 74 (nI md)) 75 tn) 76 (nI made)) 36) + 0)) 31) + 1)) 32) + tn), pa, P, ru, x.2.1, x.2.2.1, x.2.2.2.1, nI x.2.2.2.2, S8)) 32 rfl (by decide) (by decide) (Foc.cell 1 rfl rfl rfl) dX7_bursts_188 (fun H locs hw => ?_)
                  refine lv_iload_n hx hb dX7_bursts_189 rfl (lv_at hl 3 rfl) ?_
                  exact r_ret X hw hk hret rfl (by rw [hx9]; exact htn) (by unfold buS bLog bL3; rw [hx9]; dsimp only; rw [← htn]; rw [if_pos c3]) dX7_bursts_190
                · skip
                  refine lv_iconst (v := 1) hx hb dX7_bursts_160 (by decide) ?_
                  refine lv_goto (tgt := 165) hx hb dX7_bursts_161 (by decide) ?_
                  refine lv_iadd hx hb dX7_bursts_165 ?_
                  refine r_iast X hw (ws' := mW D L (upd (upd (upd (upd (va_cpy x.2.1 (va_cpy x.1 x.1 67 77 50) 0 67 7) 74 (nI md)) 75 tn) 76 (nI made)) 36 (((upd (upd (upd (va_cpy x.2.1 (va_cpy x.1 x.1 67 77 50) 0 67 7) 74 (nI md)) 75 tn) 76 (nI made)) 36) + 1), pa, P, ru, x.2.1, x.2.2.1, x.2.2.2.1, nI x.2.2.2.2, S8)) 36 rfl (by decide) (by decide) (Foc.cell 1 rfl rfl rfl) dX7_bursts_166 (fun H locs hw => ?_)
                  refine lv_aload_n hx hb dX7_bursts_167 rfl (lv_at hl 0 rfl) ?_
                  refine r_get X hw (v := .ref (L 1)) fl_X7_7 (m_at 0 rfl) rfl dX7_bursts_168 ?_
                  refine lv_bipush (v := 31) hx hb dX7_bursts_171 (by decide) ?_
                  refine lv_dup2_11 hx hb dX7_bursts_173 rfl rfl ?_
                  refine r_iald X hw (f := upd (upd (upd (upd (va_cpy x.2.1 (va_cpy x.1 x.1 67 77 50) 0 67 7) 74 (nI md)) 75 tn) 76 (nI made)) 36 (((upd (upd (upd (va_cpy x.2.1 (va_cpy x.1 x.1 67 77 50) 0 67 7) 74 (nI md)) 75 tn) 76 (nI made)) 36) + 1)) 31 (m_at 1 rfl) rfl (by decide) (by decide) dX7_bursts_174 ?_
                  refine lv_iconst (v := 1) hx hb dX7_bursts_175 (by decide) ?_
                  refine lv_iadd hx hb dX7_bursts_176 ?_
                  refine r_iast X hw (ws' := mW D L (upd (upd (upd (upd (upd (va_cpy x.2.1 (va_cpy x.1 x.1 67 77 50) 0 67 7) 74 (nI md)) 75 tn) 76 (nI made)) 36 (((upd (upd (upd (va_cpy x.2.1 (va_cpy x.1 x.1 67 77 50) 0 67 7) 74 (nI md)) 75 tn) 76 (nI made)) 36) + 1)) 31 (((upd (upd (upd (upd (va_cpy x.2.1 (va_cpy x.1 x.1 67 77 50) 0 67 7) 74 (nI md)) 75 tn) 76 (nI made)) 36 (((upd (upd (upd (va_cpy x.2.1 (va_cpy x.1 x.1 67 77 50) 0 67 7) 74 (nI md)) 75 tn) 76 (nI made)) 36) + 1)) 31) + 1), pa, P, ru, x.2.1, x.2.2.1, x.2.2.2.1, nI x.2.2.2.2, S8)) 31 rfl (by decide) (by decide) (Foc.cell 1 rfl rfl rfl) dX7_bursts_177 (fun H locs hw => ?_)
                  refine lv_aload_n hx hb dX7_bursts_178 rfl (lv_at hl 0 rfl) ?_
                  refine r_get X hw (v := .ref (L 1)) fl_X7_7 (m_at 0 rfl) rfl dX7_bursts_179 ?_
                  refine lv_bipush (v := 32) hx hb dX7_bursts_182 (by decide) ?_
                  refine lv_dup2_11 hx hb dX7_bursts_184 rfl rfl ?_
                  refine r_iald X hw (f := upd (upd (upd (upd (upd (va_cpy x.2.1 (va_cpy x.1 x.1 67 77 50) 0 67 7) 74 (nI md)) 75 tn) 76 (nI made)) 36 (((upd (upd (upd (va_cpy x.2.1 (va_cpy x.1 x.1 67 77 50) 0 67 7) 74 (nI md)) 75 tn) 76 (nI made)) 36) + 1)) 31 (((upd (upd (upd (upd (va_cpy x.2.1 (va_cpy x.1 x.1 67 77 50) 0 67 7) 74 (nI md)) 75 tn) 76 (nI made)) 36 (((upd (upd (upd (va_cpy x.2.1 (va_cpy x.1 x.1 67 77 50) 0 67 7) 74 (nI md)) 75 tn) 76 (nI made)) 36) + 1)) 31) + 1)) 32 (m_at 1 rfl) rfl (by decide) (by decide) dX7_bursts_185 ?_
                  refine lv_iload_n hx hb dX7_bursts_186 rfl (lv_at hl 3 rfl) ?_
                  refine lv_iadd hx hb dX7_bursts_187 ?_
                  refine r_iast X hw (ws' := mW D L (upd (upd (upd (upd (upd (upd (va_cpy x.2.1 (va_cpy x.1 x.1 67 77 50) 0 67 7) 74 (nI md)) 75 tn) 76 (nI made)) 36 (((upd (upd (upd (va_cpy x.2.1 (va_cpy x.1 x.1 67 77 50) 0 67 7) 74 (nI md)) 75 tn) 76 (nI made)) 36) + 1)) 31 (((upd (upd (upd (upd (va_cpy x.2.1 (va_cpy x.1 x.1 67 77 50) 0 67 7) 74 (nI md)) 75 tn) 76 (nI made)) 36 (((upd (upd (upd (va_cpy x.2.1 (va_cpy x.1 x.1 67 77 50) 0 67 7) 74 (nI md)) 75 tn) 76 (nI made)) 36) + 1)) 31) + 1)) 32 (((upd (upd (upd (upd (upd (va_cpy x.2.1 (va_cpy x.1 x.1 67 77 50) 0 67 7) 74 (nI md)) 75 tn) 76 (nI made)) 36 (((upd (upd (upd (va_cpy x.2.1 (va_cpy x.1 x.1 67 77 50) 0 67 7) 74 (nI md)) 75 tn) 76 (nI made)) 36) + 1)) 31 (((upd (upd (upd (upd (va_cpy x.2.1 (va_cpy x.1 x.1 67 77 50) 0 67 7) 74 (nI md)) 75 tn) 76 (nI made)) 36 (((upd (upd (upd (va_cpy x.2.1 (va_cpy x.1 x.1 67 77 50) 0 67 7) 74 (nI md)) 75 tn) 76 (nI made)) 36) + 1)) 31) + 1)) 32) + tn), pa, P, ru, x.2.1, x.2.2.1, x.2.2.2.1, nI x.2.2.2.2, S8)) 32 rfl (by decide) (by decide) (Foc.cell 1 rfl rfl rfl) dX7_bursts_188 (fun H locs hw => ?_)
                  refine lv_iload_n hx hb dX7_bursts_189 rfl (lv_at hl 3 rfl) ?_
                  exact r_ret X hw hk hret rfl (by rw [hx9]; exact htn) (by unfold buS bLog bL3; rw [hx9]; dsimp only; rw [← htn]; rw [if_neg c3]) dX7_bursts_190
              · skip
                refine lv_aload_n hx hb dX7_bursts_93 rfl (lv_at hl 0 rfl) ?_
                refine r_get X hw (v := .ref (L 1)) fl_X7_7 (m_at 0 rfl) rfl dX7_bursts_94 ?_
                refine lv_bipush (v := 67) hx hb dX7_bursts_97 (by decide) ?_
                refine lv_iload hx hb dX7_bursts_99 (lv_at hl 4 rfl) ?_
                refine r_addN hx hb 67 i rfl rfl dX7_bursts_101 ?_
                refine lv_aload_n hx hb dX7_bursts_102 rfl (lv_at hl 0 rfl) ?_
                refine r_get X hw (v := .ref (L 6)) fl_X7_25 (m_at 0 rfl) rfl dX7_bursts_103 ?_
                refine lv_iload hx hb dX7_bursts_106 (lv_at hl 4 rfl) ?_
                refine r_iald X hw (f := x.2.1) i (m_at 6 rfl) rfl (by omega) (by decide) dX7_bursts_108 ?_
                refine r_iast X hw (ws' := mW D L (upd (va_cpy x.2.1 (va_cpy x.1 x.1 67 77 50) 0 67 i) (67 + i) (x.2.1 i), pa, P, ru, x.2.1, x.2.2.1, x.2.2.2.1, nI x.2.2.2.2, S8)) (67 + i) rfl (by omega) (by decide) (Foc.cell 1 rfl rfl rfl) dX7_bursts_109 (fun H locs hw => ?_)
                refine r_iincN (lv' := [(4, .int (nI (i + 1))), (0, .ref (L 0)), (1, .int (nI md)), (2, .int (nI made)), (3, .int tn)]) hx hb i 1 rfl dX7_bursts_110 hl (k := 4) rfl rfl (by decide) rfl (fun ls hl => ?_)
                refine lv_goto (tgt := 86) hx hb dX7_bursts_113 (by decide) ?_
                exact ih86 (i + 1) (by omega) (by omega) _ _ _ (by rw [← cpy_step0]; exact hw) (lv_sub hl [1, 2, 3, 4, 0] rfl)
          exact key86 8 0 (by omega) (by omega) _ _ _ (by rw [cpy_0]; exact hw) (lv_sub hl [1, 2, 3, 4, 0] rfl)
        · skip
          refine lv_aload_n hx hb dX7_bursts_54 rfl (lv_at hl 0 rfl) ?_
          refine r_get X hw (v := .ref (L 1)) fl_X7_7 (m_at 0 rfl) rfl dX7_bursts_55 ?_
          refine lv_bipush (v := 67) hx hb dX7_bursts_58 (by decide) ?_
          refine lv_iload hx hb dX7_bursts_60 (lv_at hl 4 rfl) ?_
          refine r_addN hx hb 67 k rfl rfl dX7_bursts_62 ?_
          refine lv_aload_n hx hb dX7_bursts_63 rfl (lv_at hl 0 rfl) ?_
          refine r_get X hw (v := .ref (L 1)) fl_X7_7 (m_at 0 rfl) rfl dX7_bursts_64 ?_
          refine lv_bipush (v := 67) hx hb dX7_bursts_67 (by decide) ?_
          refine lv_iload hx hb dX7_bursts_69 (lv_at hl 4 rfl) ?_
          refine r_addN hx hb 67 k rfl rfl dX7_bursts_71 ?_
          refine lv_bipush (v := 10) hx hb dX7_bursts_72 (by decide) ?_
          refine r_subN hx hb (67 + k) 10 rfl rfl (by omega) dX7_bursts_74 ?_
          refine r_iald X hw (f := va_cpy x.1 x.1 (57 + (k + 1)) (67 + (k + 1)) (60 - (k + 1))) ((67 + k) - 10) (m_at 1 rfl) rfl (by omega) (by decide) dX7_bursts_75 ?_
          refine r_iast X hw (ws' := mW D L (upd (va_cpy x.1 x.1 (57 + (k + 1)) (67 + (k + 1)) (60 - (k + 1))) (67 + k) ((va_cpy x.1 x.1 (57 + (k + 1)) (67 + (k + 1)) (60 - (k + 1))) ((67 + k) - 10)), pa, P, ru, x.2.1, x.2.2.1, x.2.2.2.1, nI x.2.2.2.2, S8)) (67 + k) rfl (by omega) (by decide) (Foc.cell 1 rfl rfl rfl) dX7_bursts_76 (fun H locs hw => ?_)
          refine r_idecN (lv' := [(4, .int (nI (k - 1))), (0, .ref (L 0)), (1, .int (nI md)), (2, .int (nI made)), (3, .int tn)]) hx hb k (by omega) dX7_bursts_77 hl (k := 4) rfl rfl (by decide) rfl (fun ls hl => ?_)
          refine lv_goto (tgt := 47) hx hb dX7_bursts_80 (by decide) ?_
          exact ih47 (k - 1) (by omega) (by omega) (by omega) _ _ _ (by rw [show k - 1 + 1 = k from by omega, ← down_step x.1 k (by omega) (by omega)]; exact hw) (lv_sub hl [1, 2, 3, 4, 0] rfl)
    exact key47 60 59 (by omega) (by omega) (by omega) _ _ _ (by rw [cpy_0]; exact hw) (lv_sub hl [1, 2, 3, 4, 0] rfl)
  have cut30 : ∀ (x : BS) (made : Nat), (buR s td ah sh q md = (x, made)) → (x.2.2.2.2 ≤ 15) → ∀ (H : Heap) (locs : List Loc) (ls : Array Slot), Wd D A st.heap H locs (mW D L (x.1, pa, P, ru, x.2.1, x.2.2.1, x.2.2.2.1, nI x.2.2.2.2, S8)) → lv_has ls 5 [(0, .ref (L 0)), (1, .int (nI md)), (2, .int (nI made))] → W p l e (rmOf 13 0 0 284) st m args below meth c H locs 0 0 (QI below args st D A (bTorn (buR s td ah sh q md).1) (mW D L (buS s td ah sh q md, pa, P, ru, (buR s td ah sh q md).1.2.1, (buR s td ah sh q md).1.2.2.1, (buR s td ah sh q md).1.2.2.2.1, nI (buR s td ah sh q md).1.2.2.2.2, S8))) (F0 m 30 ls []) := by
    intro x made hx9 hn9 H locs ls hw hl
    refine lv_aload_n hx hb dX7_bursts_30 rfl (lv_at hl 0 rfl) ?_
    refine r_callV X hw (ws' := mW D L (x.1, pa, P, ru, x.2.1, x.2.2.1, x.2.2.2.1, nI x.2.2.2.2, S8)) (As := []) (rest := []) lk_X7_131 (c_X7_wasShown l D _ L x.1 pa P ru x.2.1 x.2.2.1 x.2.2.2.1 x.2.2.2.2 S8 (by omega)) Foc.all (m_at 0 rfl) rfl hl.1 (Nat.le_of_ble_eq_true rfl) ⟨Nat.le_of_ble_eq_true rfl, Nat.le_of_ble_eq_true rfl⟩ rfl dX7_bursts_31 ⟨Nat.le_refl _, Nat.le_refl _⟩ (fun H locs hw => ?_)
    refine lv_if_eq (tgt := 41) hx hb dX7_bursts_34 (by decide) (fun c4 => ?_) (fun c4 => ?_)
    · skip
      refine lv_iconst (v := 1) hx hb dX7_bursts_41 (by decide) ?_
      refine lv_istore_n (lv' := [(3, .int 1), (0, .ref (L 0)), (1, .int (nI md)), (2, .int (nI made))]) hx hb dX7_bursts_42 rfl hl (by decide) rfl (fun ls hl => ?_)
      exact cut43 x made 1 hx9 (by unfold bTorn; rw [if_pos c4]) _ _ _ hw (lv_sub hl [1, 2, 3, 0] rfl)
    · skip
      refine lv_iconst (v := 0) hx hb dX7_bursts_37 (by decide) ?_
      refine lv_goto (tgt := 42) hx hb dX7_bursts_38 (by decide) ?_
      refine lv_istore_n (lv' := [(3, .int 0), (0, .ref (L 0)), (1, .int (nI md)), (2, .int (nI made))]) hx hb dX7_bursts_42 rfl hl (by decide) rfl (fun ls hl => ?_)
      exact cut43 x made 0 hx9 (by unfold bTorn; rw [if_neg c4]) _ _ _ hw (lv_sub hl [1, 2, 3, 0] rfl)
  refine lv_iconst (v := 1) hx hb dX7_bursts_0 (by decide) ?_
  refine lv_istore_n (lv' := [(2, .int 1), (0, .ref (L 0)), (1, .int (nI md))]) hx hb dX7_bursts_1 rfl hl (by decide) rfl (fun ls hl => ?_)
  refine lv_iload_n hx hb dX7_bursts_2 rfl (lv_at hl 2 rfl) ?_
  refine r_ifn0N (tgt := 13) hx hb md rfl (by omega) dX7_bursts_3 (by decide) (fun c5 => ?_) (fun c5 => ?_)
  · skip
    refine lv_iload_n hx hb dX7_bursts_13 rfl (lv_at hl 2 rfl) ?_
    refine lv_iconst (v := 1) hx hb dX7_bursts_14 (by decide) ?_
    refine r_neN (tgt := 25) hx hb md 1 rfl rfl (by omega) (by omega) dX7_bursts_15 (by decide) (fun c6 => ?_) (fun c6 => ?_)
    · skip
      refine lv_aload_n hx hb dX7_bursts_25 rfl (lv_at hl 1 rfl) ?_
      refine r_callV X hw (ws' := mW D L ((agR q 4 1 (rdB s td ah sh q)).1.1, pa, P, ru, (agR q 4 1 (rdB s td ah sh q)).1.2.1, (agR q 4 1 (rdB s td ah sh q)).1.2.2.1, (agR q 4 1 (rdB s td ah sh q)).1.2.2.2.1, nI (agR q 4 1 (rdB s td ah sh q)).1.2.2.2.2, S8)) (As := []) (rest := []) lk_X7_128 (c_X7_readsAgain l D _ L s pa P ru td ah sh n0 S8 pp z q hok) Foc.all (m_at 0 rfl) rfl hl.1 (Nat.le_of_ble_eq_true rfl) ⟨Nat.le_of_ble_eq_true rfl, Nat.le_of_ble_eq_true rfl⟩ rfl dX7_bursts_26 ⟨Nat.le_refl _, Nat.le_refl _⟩ (fun H locs hw => ?_)
      refine lv_istore_n (lv' := [(2, .int (nI ((agR q 4 1 (rdB s td ah sh q)).2))), (0, .ref (L 0)), (1, .int (nI md))]) hx hb dX7_bursts_29 rfl hl (by decide) rfl (fun ls hl => ?_)
      exact cut30 ((agR q 4 1 (rdB s td ah sh q)).1.1, (agR q 4 1 (rdB s td ah sh q)).1.2.1, (agR q 4 1 (rdB s td ah sh q)).1.2.2.1, (agR q 4 1 (rdB s td ah sh q)).1.2.2.2.1, (agR q 4 1 (rdB s td ah sh q)).1.2.2.2.2) ((agR q 4 1 (rdB s td ah sh q)).2) (by unfold buR rdB; rw [if_neg c5]; rw [if_neg c6]) (by have g := (buR_ok td ah sh hok md).2; unfold buR at g; rw [if_neg c5] at g; rw [if_neg c6] at g; dsimp only [rdB] at g ⊢; omega) _ _ _ hw (lv_sub hl [1, 2, 0] rfl)
    · skip
      refine lv_aload_n hx hb dX7_bursts_18 rfl (lv_at hl 1 rfl) ?_
      refine r_callVv X hw (ws' := mW D L (phF s (7 * q), pa, P, ru, va_cpy s td 0 0 7, ah, va_cpy s sh 0 (7 * 0) 7, 1, S8)) (As := []) (rest := []) lk_X7_125 (c_X7_readsAtOnce l D _ L s pa P ru td ah sh n0 S8 pp z q hok) Foc.all (m_at 0 rfl) rfl hl.1 (Nat.le_of_ble_eq_true rfl) ⟨Nat.le_of_ble_eq_true rfl, Nat.le_of_ble_eq_true rfl⟩ rfl dX7_bursts_19 ⟨Nat.le_refl _, Nat.le_refl _⟩ (fun H locs hw => ?_)
      refine lv_goto (tgt := 30) hx hb dX7_bursts_22 (by decide) ?_
      exact cut30 (phF s (7 * q), va_cpy s td 0 0 7, ah, va_cpy s sh 0 (7 * 0) 7, 1) 1 (by unfold buR rdB; rw [if_neg c5]; rw [if_pos c6]) (by have g := (buR_ok td ah sh hok md).2; unfold buR at g; rw [if_neg c5] at g; rw [if_pos c6] at g; dsimp only [rdB] at g ⊢; omega) _ _ _ hw (lv_sub hl [1, 2, 0] rfl)
  · skip
    refine lv_aload_n hx hb dX7_bursts_6 rfl (lv_at hl 1 rfl) ?_
    refine r_callVv X hw (ws' := mW D L ((rdK s td sh q 7).1, pa, P, ru, (rdK s td sh q 7).2.1, ah, (rdK s td sh q 7).2.2.1, nI (rdK s td sh q 7).2.2.2, S8)) (As := []) (rest := []) lk_X7_119 (c_X7_readsAll l D _ L s pa P ru td ah sh n0 S8 pp z q hok) Foc.all (m_at 0 rfl) rfl hl.1 (Nat.le_of_ble_eq_true rfl) ⟨Nat.le_of_ble_eq_true rfl, Nat.le_of_ble_eq_true rfl⟩ rfl dX7_bursts_7 ⟨Nat.le_refl _, Nat.le_refl _⟩ (fun H locs hw => ?_)
    refine lv_goto (tgt := 30) hx hb dX7_bursts_10 (by decide) ?_
    exact cut30 ((rdK s td sh q 7).1, (rdK s td sh q 7).2.1, ah, (rdK s td sh q 7).2.2.1, (rdK s td sh q 7).2.2.2) 1 (by unfold buR rdB; rw [if_pos c5]) (by have g := (buR_ok td ah sh hok md).2; unfold buR at g; rw [if_pos c5] at g; dsimp only [rdB] at g ⊢; omega) _ _ _ hw (lv_sub hl [1, 2, 0] rfl)
end
section
/-! the public calls of the reference -/
abbrev MT4 : Type := Row × Row × Row × Int32 × MT8

noncomputable def sp_X7_write (s : Row) (r : Nat) (v : Nat) : Int32 × Row := ((upd (sp_X7_puts s r (nI v)) 34 (((sp_X7_puts s r (nI v)) 34) + 1)) (0 + r), upd (sp_X7_puts s r (nI v)) 34 (((sp_X7_puts s r (nI v)) 34) + 1))
set_option maxRecDepth 100000 in
set_option maxHeartbeats 4000000 in
theorem c_X7_write_1 (l : Launch) (D : va_G) (sz : Nat) (L : Nat → Nat) (s pa : Row) (P : Nat) (S4 : MT4) (r : Nat) (v : Nat) (hr : r < 7) (hv : v < 256) (hP : P ≤ 4) : MI l yX7_write cX7_write 3 (some .int) 2 42 D sz [.ref (L 0), .int (nI r), .int (nI v)] (mW D L (s, pa, nI P, 1, S4)) ((sp_X7_write s r v).1) (mW D L ((sp_X7_write s r v).2, pa, nI P, 1, S4)) := by
  refine r_enterI (by decide) (Nat.le_of_ble_eq_true rfl) ?_
  intro p e st m args below meth c ls A X hret hk hw hl
  have X : CX D p m c cX7_write 3 st args RX7 A := X
  have hx := X.1.1
  have hb := X.1.2.1
  have hown := X.1.2.2.2.1
  have hts := X.1.2.2.2.2
  have hl : lv_has ls 3 [(0, .ref (L 0)), (1, .int (nI r)), (2, .int (nI v))] := hl
  refine lv_iload_n hx hb dX7_write_0 rfl (lv_at hl 1 rfl) ?_
  refine r_callS X hw (ws' := mW D L (s, pa, nI P, 1, S4)) (As := [.int (nI r)]) (rest := []) lk_X7_103 (c_X7_isRegister l D _ (nI r)) Foc.nil rfl hl.1 (Nat.le_of_ble_eq_true rfl) ⟨Nat.le_of_ble_eq_true rfl, Nat.le_of_ble_eq_true rfl⟩ rfl dX7_write_1 ⟨Nat.le_refl _, Nat.le_refl _⟩ (fun H locs hw => ?_)
  refine lv_if_eq (tgt := 18) hx hb dX7_write_4 (by decide) (fun h => absurd h (isReg_ok (by omega))) (fun _ => ?_)
  refine lv_iload_n hx hb dX7_write_7 rfl (lv_at hl 2 rfl) ?_
  refine lv_iconst (v := 0) hx hb dX7_write_8 (by decide) ?_
  refine lv_sipush (v := 255) hx hb dX7_write_9 (by decide) ?_
  refine r_callS X hw (ws' := mW D L (s, pa, nI P, 1, S4)) (As := [.int (nI v), .int 0, .int 255]) (rest := []) lk_X7_45 (c_X7_in l D _ (nI v) 0 255) Foc.nil rfl hl.1 (Nat.le_of_ble_eq_true rfl) ⟨Nat.le_of_ble_eq_true rfl, Nat.le_of_ble_eq_true rfl⟩ rfl dX7_write_12 ⟨Nat.le_refl _, Nat.le_refl _⟩ (fun H locs hw => ?_)
  refine lv_if_ne (tgt := 21) hx hb dX7_write_15 (by decide) (fun _ => ?_) (fun h => absurd h (in_ok v 255 (by omega) (by decide)))
  refine lv_aload_n hx hb dX7_write_21 rfl (lv_at hl 0 rfl) ?_
  refine r_callVv X hw (ws' := mW D L (s, pa, nI P, 1, S4)) (As := []) (rest := []) lk_X7_107 (c_X7_changesR l D _ L s pa P 1 S4 (by omega) (by decide)) Foc.all (m_at 0 rfl) rfl hl.1 (Nat.le_of_ble_eq_true rfl) ⟨Nat.le_of_ble_eq_true rfl, Nat.le_of_ble_eq_true rfl⟩ rfl dX7_write_22 ⟨Nat.le_refl _, Nat.le_refl _⟩ (fun H locs hw => ?_)
  refine lv_aload_n hx hb dX7_write_25 rfl (lv_at hl 0 rfl) ?_
  refine lv_iload_n hx hb dX7_write_26 rfl (lv_at hl 1 rfl) ?_
  refine lv_iload_n hx hb dX7_write_27 rfl (lv_at hl 2 rfl) ?_
  refine r_callVv X hw (ws' := mW D L (sp_X7_puts s r (nI v), pa, nI P, 1, S4)) (As := [.int (nI r), .int (nI v)]) (rest := []) lk_X7_84 (c_X7_puts l D _ L s (pa, nI P, 1, S4) r (nI v) (by omega)) Foc.all (m_at 0 rfl) rfl hl.1 (Nat.le_of_ble_eq_true rfl) ⟨Nat.le_of_ble_eq_true rfl, Nat.le_of_ble_eq_true rfl⟩ rfl dX7_write_28 ⟨Nat.le_refl _, Nat.le_refl _⟩ (fun H locs hw => ?_)
  refine lv_aload_n hx hb dX7_write_31 rfl (lv_at hl 0 rfl) ?_
  refine r_get X hw (v := .ref (L 1)) fl_X7_7 (m_at 0 rfl) rfl dX7_write_32 ?_
  refine lv_bipush (v := 34) hx hb dX7_write_35 (by decide) ?_
  refine lv_dup2_11 hx hb dX7_write_37 rfl rfl ?_
  refine r_iald X hw (f := sp_X7_puts s r (nI v)) 34 (m_at 1 rfl) rfl (by decide) (by decide) dX7_write_38 ?_
  refine lv_iconst (v := 1) hx hb dX7_write_39 (by decide) ?_
  refine lv_iadd hx hb dX7_write_40 ?_
  refine r_iast X hw (ws' := mW D L (upd (sp_X7_puts s r (nI v)) 34 (((sp_X7_puts s r (nI v)) 34) + 1), pa, nI P, 1, S4)) 34 rfl (by decide) (by decide) (Foc.cell 1 rfl rfl rfl) dX7_write_41 (fun H locs hw => ?_)
  refine lv_aload_n hx hb dX7_write_42 rfl (lv_at hl 0 rfl) ?_
  refine r_get X hw (v := .ref (L 1)) fl_X7_7 (m_at 0 rfl) rfl dX7_write_43 ?_
  refine lv_iconst (v := 0) hx hb dX7_write_46 (by decide) ?_
  refine lv_iload_n hx hb dX7_write_47 rfl (lv_at hl 1 rfl) ?_
  refine r_addN hx hb 0 r rfl rfl dX7_write_48 ?_
  refine r_iald X hw (f := upd (sp_X7_puts s r (nI v)) 34 (((sp_X7_puts s r (nI v)) 34) + 1)) (0 + r) (m_at 1 rfl) rfl (by omega) (by decide) dX7_write_49 ?_
  exact r_ret X hw hk hret rfl (rfl) (rfl) dX7_write_50

set_option maxRecDepth 100000 in
set_option maxHeartbeats 4000000 in
theorem c_X7_write_0 (l : Launch) (D : va_G) (sz : Nat) (L : Nat → Nat) (s pa : Row) (P : Nat) (S4 : MT4) (r : Nat) (v : Nat) (hr : r < 7) (hv : v < 256) (hP : P ≤ 4) : MI l yX7_write cX7_write 3 (some .int) 2 42 D sz [.ref (L 0), .int (nI r), .int (nI v)] (mW D L (s, pa, nI P, 0, S4)) ((sp_X7_write s r v).1) (mW D L ((sp_X7_write s r v).2, (pushR s pa P).1, nI (pushR s pa P).2, 0, S4)) := by
  refine r_enterI (by decide) (Nat.le_of_ble_eq_true rfl) ?_
  intro p e st m args below meth c ls A X hret hk hw hl
  have X : CX D p m c cX7_write 3 st args RX7 A := X
  have hx := X.1.1
  have hb := X.1.2.1
  have hown := X.1.2.2.2.1
  have hts := X.1.2.2.2.2
  have hl : lv_has ls 3 [(0, .ref (L 0)), (1, .int (nI r)), (2, .int (nI v))] := hl
  refine lv_iload_n hx hb dX7_write_0 rfl (lv_at hl 1 rfl) ?_
  refine r_callS X hw (ws' := mW D L (s, pa, nI P, 0, S4)) (As := [.int (nI r)]) (rest := []) lk_X7_103 (c_X7_isRegister l D _ (nI r)) Foc.nil rfl hl.1 (Nat.le_of_ble_eq_true rfl) ⟨Nat.le_of_ble_eq_true rfl, Nat.le_of_ble_eq_true rfl⟩ rfl dX7_write_1 ⟨Nat.le_refl _, Nat.le_refl _⟩ (fun H locs hw => ?_)
  refine lv_if_eq (tgt := 18) hx hb dX7_write_4 (by decide) (fun h => absurd h (isReg_ok (by omega))) (fun _ => ?_)
  refine lv_iload_n hx hb dX7_write_7 rfl (lv_at hl 2 rfl) ?_
  refine lv_iconst (v := 0) hx hb dX7_write_8 (by decide) ?_
  refine lv_sipush (v := 255) hx hb dX7_write_9 (by decide) ?_
  refine r_callS X hw (ws' := mW D L (s, pa, nI P, 0, S4)) (As := [.int (nI v), .int 0, .int 255]) (rest := []) lk_X7_45 (c_X7_in l D _ (nI v) 0 255) Foc.nil rfl hl.1 (Nat.le_of_ble_eq_true rfl) ⟨Nat.le_of_ble_eq_true rfl, Nat.le_of_ble_eq_true rfl⟩ rfl dX7_write_12 ⟨Nat.le_refl _, Nat.le_refl _⟩ (fun H locs hw => ?_)
  refine lv_if_ne (tgt := 21) hx hb dX7_write_15 (by decide) (fun _ => ?_) (fun h => absurd h (in_ok v 255 (by omega) (by decide)))
  refine lv_aload_n hx hb dX7_write_21 rfl (lv_at hl 0 rfl) ?_
  refine r_callVv X hw (ws' := mW D L (s, (pushR s pa P).1, nI (pushR s pa P).2, 0, S4)) (As := []) (rest := []) lk_X7_107 (c_X7_changes0 l D _ L s pa P 0 S4 (by omega)) Foc.all (m_at 0 rfl) rfl hl.1 (Nat.le_of_ble_eq_true rfl) ⟨Nat.le_of_ble_eq_true rfl, Nat.le_of_ble_eq_true rfl⟩ rfl dX7_write_22 ⟨Nat.le_refl _, Nat.le_refl _⟩ (fun H locs hw => ?_)
  refine lv_aload_n hx hb dX7_write_25 rfl (lv_at hl 0 rfl) ?_
  refine lv_iload_n hx hb dX7_write_26 rfl (lv_at hl 1 rfl) ?_
  refine lv_iload_n hx hb dX7_write_27 rfl (lv_at hl 2 rfl) ?_
  refine r_callVv X hw (ws' := mW D L (sp_X7_puts s r (nI v), (pushR s pa P).1, nI (pushR s pa P).2, 0, S4)) (As := [.int (nI r), .int (nI v)]) (rest := []) lk_X7_84 (c_X7_puts l D _ L s ((pushR s pa P).1, nI (pushR s pa P).2, 0, S4) r (nI v) (by omega)) Foc.all (m_at 0 rfl) rfl hl.1 (Nat.le_of_ble_eq_true rfl) ⟨Nat.le_of_ble_eq_true rfl, Nat.le_of_ble_eq_true rfl⟩ rfl dX7_write_28 ⟨Nat.le_refl _, Nat.le_refl _⟩ (fun H locs hw => ?_)
  refine lv_aload_n hx hb dX7_write_31 rfl (lv_at hl 0 rfl) ?_
  refine r_get X hw (v := .ref (L 1)) fl_X7_7 (m_at 0 rfl) rfl dX7_write_32 ?_
  refine lv_bipush (v := 34) hx hb dX7_write_35 (by decide) ?_
  refine lv_dup2_11 hx hb dX7_write_37 rfl rfl ?_
  refine r_iald X hw (f := sp_X7_puts s r (nI v)) 34 (m_at 1 rfl) rfl (by decide) (by decide) dX7_write_38 ?_
  refine lv_iconst (v := 1) hx hb dX7_write_39 (by decide) ?_
  refine lv_iadd hx hb dX7_write_40 ?_
  refine r_iast X hw (ws' := mW D L (upd (sp_X7_puts s r (nI v)) 34 (((sp_X7_puts s r (nI v)) 34) + 1), (pushR s pa P).1, nI (pushR s pa P).2, 0, S4)) 34 rfl (by decide) (by decide) (Foc.cell 1 rfl rfl rfl) dX7_write_41 (fun H locs hw => ?_)
  refine lv_aload_n hx hb dX7_write_42 rfl (lv_at hl 0 rfl) ?_
  refine r_get X hw (v := .ref (L 1)) fl_X7_7 (m_at 0 rfl) rfl dX7_write_43 ?_
  refine lv_iconst (v := 0) hx hb dX7_write_46 (by decide) ?_
  refine lv_iload_n hx hb dX7_write_47 rfl (lv_at hl 1 rfl) ?_
  refine r_addN hx hb 0 r rfl rfl dX7_write_48 ?_
  refine r_iald X hw (f := upd (sp_X7_puts s r (nI v)) 34 (((sp_X7_puts s r (nI v)) 34) + 1)) (0 + r) (m_at 1 rfl) rfl (by omega) (by decide) dX7_write_49 ?_
  exact r_ret X hw hk hret rfl (rfl) (rfl) dX7_write_50

set_option maxRecDepth 100000 in
set_option maxHeartbeats 4000000 in
theorem c_X7_write_bad (l : Launch) (D : va_G) (sz : Nat) (L : Nat → Nat) (S : MSt) (a1 a2 : Int32) (hbad : ¬ ((¬ sp_X7_isRegister a1 = 0) ∧ ¬ sp_X7_in a2 0 255 = 0)) : MI l yX7_write cX7_write 3 (some .int) 2 42 D sz [.ref (L 0), .int a1, .int a2] (mW D L S) (-1000001) (mW D L S) := by
  refine r_enterI (by decide) (Nat.le_of_ble_eq_true rfl) ?_
  intro p e st m args below meth c ls A X hret hk hw hl
  have X : CX D p m c cX7_write 3 st args RX7 A := X
  have hx := X.1.1
  have hb := X.1.2.1
  have hown := X.1.2.2.2.1
  have hts := X.1.2.2.2.2
  have hl : lv_has ls 3 [(0, .ref (L 0)), (1, .int a1), (2, .int a2)] := hl
  refine lv_iload_n hx hb dX7_write_0 rfl (lv_at hl 1 rfl) ?_
  refine r_callS X hw (ws' := mW D L S) (As := [.int a1]) (rest := []) lk_X7_103 (c_X7_isRegister l D _ a1) Foc.nil rfl hl.1 (Nat.le_of_ble_eq_true rfl) ⟨Nat.le_of_ble_eq_true rfl, Nat.le_of_ble_eq_true rfl⟩ rfl dX7_write_1 ⟨Nat.le_refl _, Nat.le_refl _⟩ (fun H locs hw => ?_)
  refine lv_if_eq (tgt := 18) hx hb dX7_write_4 (by decide) (fun c1 => ?_) (fun c1 => ?_)
  · skip
    refine lv_ldc (v := (-1000001)) hx hb hown (hts _ kc_X7_106) dX7_write_18 ?_
    exact r_ret X hw hk hret rfl rfl rfl dX7_write_20
  · skip
    refine lv_iload_n hx hb dX7_write_7 rfl (lv_at hl 2 rfl) ?_
    refine lv_iconst (v := 0) hx hb dX7_write_8 (by decide) ?_
    refine lv_sipush (v := 255) hx hb dX7_write_9 (by decide) ?_
    refine r_callS X hw (ws' := mW D L S) (As := [.int a2, .int 0, .int 255]) (rest := []) lk_X7_45 (c_X7_in l D _ a2 0 255) Foc.nil rfl hl.1 (Nat.le_of_ble_eq_true rfl) ⟨Nat.le_of_ble_eq_true rfl, Nat.le_of_ble_eq_true rfl⟩ rfl dX7_write_12 ⟨Nat.le_refl _, Nat.le_refl _⟩ (fun H locs hw => ?_)
    refine lv_if_ne (tgt := 21) hx hb dX7_write_15 (by decide) (fun c2 => ?_) (fun c2 => ?_)
    · skip
      exact absurd ⟨c1, c2⟩ hbad
    · skip
      refine lv_ldc (v := (-1000001)) hx hb hown (hts _ kc_X7_106) dX7_write_18 ?_
      exact r_ret X hw hk hret rfl rfl rfl dX7_write_20

noncomputable def sp_X7_read (s : Row) (r : Nat) (q : Nat) : Int32 × Row := ((upd s 33 ((s 33) + 1)) (0 + r), phF (upd s 33 ((s 33) + 1)) q)
set_option maxRecDepth 100000 in
set_option maxHeartbeats 4000000 in
theorem c_X7_read_1 (l : Launch) (D : va_G) (sz : Nat) (L : Nat → Nat) (s pa : Row) (P : Nat) (S4 : MT4) (r : Nat) (hr : r < 7) (hP : P ≤ 4) (q : Nat) (hq8 : q ≤ 8) (hq : s 37 = nI q) : MI l yX7_read cX7_read 3 (some .int) 12 261 D sz [.ref (L 0), .int (nI r)] (mW D L (s, pa, nI P, 1, S4)) ((sp_X7_read s r q).1) (mW D L ((sp_X7_read s r q).2, pa, nI P, 1, S4)) := by
  refine r_enterI (by decide) (Nat.le_of_ble_eq_true rfl) ?_
  intro p e st m args below meth c ls A X hret hk hw hl
  have X : CX D p m c cX7_read 3 st args RX7 A := X
  have hx := X.1.1
  have hb := X.1.2.1
  have hown := X.1.2.2.2.1
  have hts := X.1.2.2.2.2
  have hl : lv_has ls 3 [(0, .ref (L 0)), (1, .int (nI r))] := hl
  refine lv_iload_n hx hb dX7_read_0 rfl (lv_at hl 1 rfl) ?_
  refine r_callS X hw (ws' := mW D L (s, pa, nI P, 1, S4)) (As := [.int (nI r)]) (rest := []) lk_X7_103 (c_X7_isRegister l D _ (nI r)) Foc.nil rfl hl.1 (Nat.le_of_ble_eq_true rfl) ⟨Nat.le_of_ble_eq_true rfl, Nat.le_of_ble_eq_true rfl⟩ rfl dX7_read_1 ⟨Nat.le_refl _, Nat.le_refl _⟩ (fun H locs hw => ?_)
  refine lv_if_ne (tgt := 10) hx hb dX7_read_4 (by decide) (fun _ => ?_) (fun h => absurd h (isReg_ok (by omega)))
  refine lv_aload_n hx hb dX7_read_10 rfl (lv_at hl 0 rfl) ?_
  refine r_callVv X hw (ws' := mW D L (s, pa, nI P, 1, S4)) (As := []) (rest := []) lk_X7_107 (c_X7_changesR l D _ L s pa P 1 S4 (by omega) (by decide)) Foc.all (m_at 0 rfl) rfl hl.1 (Nat.le_of_ble_eq_true rfl) ⟨Nat.le_of_ble_eq_true rfl, Nat.le_of_ble_eq_true rfl⟩ rfl dX7_read_11 ⟨Nat.le_refl _, Nat.le_refl _⟩ (fun H locs hw => ?_)
  refine lv_aload_n hx hb dX7_read_14 rfl (lv_at hl 0 rfl) ?_
  refine r_get X hw (v := .ref (L 1)) fl_X7_7 (m_at 0 rfl) rfl dX7_read_15 ?_
  refine lv_bipush (v := 33) hx hb dX7_read_18 (by decide) ?_
  refine lv_dup2_11 hx hb dX7_read_20 rfl rfl ?_
  refine r_iald X hw (f := s) 33 (m_at 1 rfl) rfl (by decide) (by decide) dX7_read_21 ?_
  refine lv_iconst (v := 1) hx hb dX7_read_22 (by decide) ?_
  refine lv_iadd hx hb dX7_read_23 ?_
  refine r_iast X hw (ws' := mW D L (upd s 33 ((s 33) + 1), pa, nI P, 1, S4)) 33 rfl (by decide) (by decide) (Foc.cell 1 rfl rfl rfl) dX7_read_24 (fun H locs hw => ?_)
  refine lv_aload_n hx hb dX7_read_25 rfl (lv_at hl 0 rfl) ?_
  refine r_get X hw (v := .ref (L 1)) fl_X7_7 (m_at 0 rfl) rfl dX7_read_26 ?_
  refine lv_iconst (v := 0) hx hb dX7_read_29 (by decide) ?_
  refine lv_iload_n hx hb dX7_read_30 rfl (lv_at hl 1 rfl) ?_
  refine r_addN hx hb 0 r rfl rfl dX7_read_31 ?_
  refine r_iald X hw (f := upd s 33 ((s 33) + 1)) (0 + r) (m_at 1 rfl) rfl (by omega) (by decide) dX7_read_32 ?_
  refine lv_istore_n (lv' := [(2, .int ((upd s 33 ((s 33) + 1)) (0 + r))), (0, .ref (L 0)), (1, .int (nI r))]) hx hb dX7_read_33 rfl hl (by decide) rfl (fun ls hl => ?_)
  refine lv_aload_n hx hb dX7_read_34 rfl (lv_at hl 1 rfl) ?_
  refine lv_aload_n hx hb dX7_read_35 rfl (lv_at hl 1 rfl) ?_
  refine r_get X hw (v := .ref (L 1)) fl_X7_7 (m_at 0 rfl) rfl dX7_read_36 ?_
  refine lv_bipush (v := 37) hx hb dX7_read_39 (by decide) ?_
  refine r_iald X hw (f := upd s 33 ((s 33) + 1)) 37 (m_at 1 rfl) rfl (by decide) (by decide) dX7_read_41 ?_
  rw [show ((upd s 33 ((s 33) + 1)) 37) = nI q from (upd_ne _ _ (by decide)).trans hq]
  refine r_callV X hw (ws' := mW D L (phF (upd s 33 ((s 33) + 1)) q, pa, nI P, 1, S4)) (As := [.int (nI q)]) (rest := []) lk_X7_110 (c_X7_passes l D _ L (upd s 33 ((s 33) + 1)) (pa, nI P, 1, S4) q (by omega)) Foc.all (m_at 0 rfl) rfl hl.1 (Nat.le_of_ble_eq_true rfl) ⟨Nat.le_of_ble_eq_true rfl, Nat.le_of_ble_eq_true rfl⟩ rfl dX7_read_42 ⟨Nat.le_refl _, Nat.le_refl _⟩ (fun H locs hw => ?_)
  refine lv_if_ge (tgt := 53) hx hb dX7_read_45 (by decide) (fun _ => ?_) (fun h => absurd (phN_ge (upd s 33 ((s 33) + 1)) q (by omega)) h)
  refine lv_iload_n hx hb dX7_read_53 rfl (lv_at hl 0 rfl) ?_
  exact r_ret X hw hk hret rfl (rfl) (rfl) dX7_read_54

set_option maxRecDepth 100000 in
set_option maxHeartbeats 4000000 in
theorem c_X7_read_0 (l : Launch) (D : va_G) (sz : Nat) (L : Nat → Nat) (s pa : Row) (P : Nat) (S4 : MT4) (r : Nat) (hr : r < 7) (hP : P ≤ 4) (q : Nat) (hq8 : q ≤ 8) (hq : s 37 = nI q) : MI l yX7_read cX7_read 3 (some .int) 12 261 D sz [.ref (L 0), .int (nI r)] (mW D L (s, pa, nI P, 0, S4)) ((sp_X7_read s r q).1) (mW D L ((sp_X7_read s r q).2, (pushR s pa P).1, nI (pushR s pa P).2, 0, S4)) := by
  refine r_enterI (by decide) (Nat.le_of_ble_eq_true rfl) ?_
  intro p e st m args below meth c ls A X hret hk hw hl
  have X : CX D p m c cX7_read 3 st args RX7 A := X
  have hx := X.1.1
  have hb := X.1.2.1
  have hown := X.1.2.2.2.1
  have hts := X.1.2.2.2.2
  have hl : lv_has ls 3 [(0, .ref (L 0)), (1, .int (nI r))] := hl
  refine lv_iload_n hx hb dX7_read_0 rfl (lv_at hl 1 rfl) ?_
  refine r_callS X hw (ws' := mW D L (s, pa, nI P, 0, S4)) (As := [.int (nI r)]) (rest := []) lk_X7_103 (c_X7_isRegister l D _ (nI r)) Foc.nil rfl hl.1 (Nat.le_of_ble_eq_true rfl) ⟨Nat.le_of_ble_eq_true rfl, Nat.le_of_ble_eq_true rfl⟩ rfl dX7_read_1 ⟨Nat.le_refl _, Nat.le_refl _⟩ (fun H locs hw => ?_)
  refine lv_if_ne (tgt := 10) hx hb dX7_read_4 (by decide) (fun _ => ?_) (fun h => absurd h (isReg_ok (by omega)))
  refine lv_aload_n hx hb dX7_read_10 rfl (lv_at hl 0 rfl) ?_
  refine r_callVv X hw (ws' := mW D L (s, (pushR s pa P).1, nI (pushR s pa P).2, 0, S4)) (As := []) (rest := []) lk_X7_107 (c_X7_changes0 l D _ L s pa P 0 S4 (by omega)) Foc.all (m_at 0 rfl) rfl hl.1 (Nat.le_of_ble_eq_true rfl) ⟨Nat.le_of_ble_eq_true rfl, Nat.le_of_ble_eq_true rfl⟩ rfl dX7_read_11 ⟨Nat.le_refl _, Nat.le_refl _⟩ (fun H locs hw => ?_)
  refine lv_aload_n hx hb dX7_read_14 rfl (lv_at hl 0 rfl) ?_
  refine r_get X hw (v := .ref (L 1)) fl_X7_7 (m_at 0 rfl) rfl dX7_read_15 ?_
  refine lv_bipush (v := 33) hx hb dX7_read_18 (by decide) ?_
  refine lv_dup2_11 hx hb dX7_read_20 rfl rfl ?_
  refine r_iald X hw (f := s) 33 (m_at 1 rfl) rfl (by decide) (by decide) dX7_read_21 ?_
  refine lv_iconst (v := 1) hx hb dX7_read_22 (by decide) ?_
  refine lv_iadd hx hb dX7_read_23 ?_
  refine r_iast X hw (ws' := mW D L (upd s 33 ((s 33) + 1), (pushR s pa P).1, nI (pushR s pa P).2, 0, S4)) 33 rfl (by decide) (by decide) (Foc.cell 1 rfl rfl rfl) dX7_read_24 (fun H locs hw => ?_)
  refine lv_aload_n hx hb dX7_read_25 rfl (lv_at hl 0 rfl) ?_
  refine r_get X hw (v := .ref (L 1)) fl_X7_7 (m_at 0 rfl) rfl dX7_read_26 ?_
  refine lv_iconst (v := 0) hx hb dX7_read_29 (by decide) ?_
  refine lv_iload_n hx hb dX7_read_30 rfl (lv_at hl 1 rfl) ?_
  refine r_addN hx hb 0 r rfl rfl dX7_read_31 ?_
  refine r_iald X hw (f := upd s 33 ((s 33) + 1)) (0 + r) (m_at 1 rfl) rfl (by omega) (by decide) dX7_read_32 ?_
  refine lv_istore_n (lv' := [(2, .int ((upd s 33 ((s 33) + 1)) (0 + r))), (0, .ref (L 0)), (1, .int (nI r))]) hx hb dX7_read_33 rfl hl (by decide) rfl (fun ls hl => ?_)
  refine lv_aload_n hx hb dX7_read_34 rfl (lv_at hl 1 rfl) ?_
  refine lv_aload_n hx hb dX7_read_35 rfl (lv_at hl 1 rfl) ?_
  refine r_get X hw (v := .ref (L 1)) fl_X7_7 (m_at 0 rfl) rfl dX7_read_36 ?_
  refine lv_bipush (v := 37) hx hb dX7_read_39 (by decide) ?_
  refine r_iald X hw (f := upd s 33 ((s 33) + 1)) 37 (m_at 1 rfl) rfl (by decide) (by decide) dX7_read_41 ?_
  rw [show ((upd s 33 ((s 33) + 1)) 37) = nI q from (upd_ne _ _ (by decide)).trans hq]
  refine r_callV X hw (ws' := mW D L (phF (upd s 33 ((s 33) + 1)) q, (pushR s pa P).1, nI (pushR s pa P).2, 0, S4)) (As := [.int (nI q)]) (rest := []) lk_X7_110 (c_X7_passes l D _ L (upd s 33 ((s 33) + 1)) ((pushR s pa P).1, nI (pushR s pa P).2, 0, S4) q (by omega)) Foc.all (m_at 0 rfl) rfl hl.1 (Nat.le_of_ble_eq_true rfl) ⟨Nat.le_of_ble_eq_true rfl, Nat.le_of_ble_eq_true rfl⟩ rfl dX7_read_42 ⟨Nat.le_refl _, Nat.le_refl _⟩ (fun H locs hw => ?_)
  refine lv_if_ge (tgt := 53) hx hb dX7_read_45 (by decide) (fun _ => ?_) (fun h => absurd (phN_ge (upd s 33 ((s 33) + 1)) q (by omega)) h)
  refine lv_iload_n hx hb dX7_read_53 rfl (lv_at hl 0 rfl) ?_
  exact r_ret X hw hk hret rfl (rfl) (rfl) dX7_read_54

set_option maxRecDepth 100000 in
set_option maxHeartbeats 4000000 in
theorem c_X7_read_bad (l : Launch) (D : va_G) (sz : Nat) (L : Nat → Nat) (S : MSt) (a1 : Int32) (hbad : ¬ (¬ sp_X7_isRegister a1 = 0)) : MI l yX7_read cX7_read 3 (some .int) 2 42 D sz [.ref (L 0), .int a1] (mW D L S) (-1000001) (mW D L S) := by
  refine r_enterI (by decide) (Nat.le_of_ble_eq_true rfl) ?_
  intro p e st m args below meth c ls A X hret hk hw hl
  have X : CX D p m c cX7_read 3 st args RX7 A := X
  have hx := X.1.1
  have hb := X.1.2.1
  have hown := X.1.2.2.2.1
  have hts := X.1.2.2.2.2
  have hl : lv_has ls 3 [(0, .ref (L 0)), (1, .int a1)] := hl
  refine lv_iload_n hx hb dX7_read_0 rfl (lv_at hl 1 rfl) ?_
  refine r_callS X hw (ws' := mW D L S) (As := [.int a1]) (rest := []) lk_X7_103 (c_X7_isRegister l D _ a1) Foc.nil rfl hl.1 (Nat.le_of_ble_eq_true rfl) ⟨Nat.le_of_ble_eq_true rfl, Nat.le_of_ble_eq_true rfl⟩ rfl dX7_read_1 ⟨Nat.le_refl _, Nat.le_refl _⟩ (fun H locs hw => ?_)
  refine lv_if_ne (tgt := 10) hx hb dX7_read_4 (by decide) (fun c1 => ?_) (fun c1 => ?_)
  · skip
    exact absurd c1 hbad
  · skip
    refine lv_ldc (v := (-1000001)) hx hb hown (hts _ kc_X7_106) dX7_read_7 ?_
    exact r_ret X hw hk hret rfl rfl rfl dX7_read_9

set_option maxRecDepth 100000 in
set_option maxHeartbeats 4000000 in
theorem c_X7_pass_1 (l : Launch) (D : va_G) (sz : Nat) (L : Nat → Nat) (s pa : Row) (P : Nat) (S4 : MT4) (n : Nat) (hn : n < 10000) (hP : P ≤ 4) (hn1 : 1 ≤ n) : MI l yX7_pass cX7_pass 2 (some .int) 12 261 D sz [.ref (L 0), .int (nI n)] (mW D L (s, pa, nI P, 1, S4)) (phN s n) (mW D L (phF s n, pa, nI P, 1, S4)) := by
  refine r_enterI (by decide) (Nat.le_of_ble_eq_true rfl) ?_
  intro p e st m args below meth c ls A X hret hk hw hl
  have X : CX D p m c cX7_pass 2 st args RX7 A := X
  have hx := X.1.1
  have hb := X.1.2.1
  have hown := X.1.2.2.2.1
  have hts := X.1.2.2.2.2
  have hl : lv_has ls 2 [(0, .ref (L 0)), (1, .int (nI n))] := hl
  refine lv_iload_n hx hb dX7_pass_0 rfl (lv_at hl 1 rfl) ?_
  refine lv_iconst (v := 1) hx hb dX7_pass_1 (by decide) ?_
  refine lv_sipush (v := 9999) hx hb dX7_pass_2 (by decide) ?_
  refine r_callS X hw (ws' := mW D L (s, pa, nI P, 1, S4)) (As := [.int (nI n), .int 1, .int 9999]) (rest := []) lk_X7_45 (c_X7_in l D _ (nI n) 1 9999) Foc.nil rfl hl.1 (Nat.le_of_ble_eq_true rfl) ⟨Nat.le_of_ble_eq_true rfl, Nat.le_of_ble_eq_true rfl⟩ rfl dX7_pass_5 ⟨Nat.le_refl _, Nat.le_refl _⟩ (fun H locs hw => ?_)
  refine lv_if_ne (tgt := 14) hx hb dX7_pass_8 (by decide) (fun _ => ?_) (fun h => absurd h (in_okL n 1 9999 (by omega) (by omega) (by decide)))
  refine lv_aload_n hx hb dX7_pass_14 rfl (lv_at hl 0 rfl) ?_
  refine r_callVv X hw (ws' := mW D L (s, pa, nI P, 1, S4)) (As := []) (rest := []) lk_X7_107 (c_X7_changesR l D _ L s pa P 1 S4 (by omega) (by decide)) Foc.all (m_at 0 rfl) rfl hl.1 (Nat.le_of_ble_eq_true rfl) ⟨Nat.le_of_ble_eq_true rfl, Nat.le_of_ble_eq_true rfl⟩ rfl dX7_pass_15 ⟨Nat.le_refl _, Nat.le_refl _⟩ (fun H locs hw => ?_)
  refine lv_aload_n hx hb dX7_pass_18 rfl (lv_at hl 0 rfl) ?_
  refine lv_iload_n hx hb dX7_pass_19 rfl (lv_at hl 1 rfl) ?_
  refine r_callV X hw (ws' := mW D L (phF s n, pa, nI P, 1, S4)) (As := [.int (nI n)]) (rest := []) lk_X7_110 (c_X7_passes l D _ L s (pa, nI P, 1, S4) n (by omega)) Foc.all (m_at 0 rfl) rfl hl.1 (Nat.le_of_ble_eq_true rfl) ⟨Nat.le_of_ble_eq_true rfl, Nat.le_of_ble_eq_true rfl⟩ rfl dX7_pass_20 ⟨Nat.le_refl _, Nat.le_refl _⟩ (fun H locs hw => ?_)
  exact r_ret X hw hk hret rfl rfl rfl dX7_pass_23

set_option maxRecDepth 100000 in
set_option maxHeartbeats 4000000 in
theorem c_X7_pass_0 (l : Launch) (D : va_G) (sz : Nat) (L : Nat → Nat) (s pa : Row) (P : Nat) (S4 : MT4) (n : Nat) (hn : n < 10000) (hP : P ≤ 4) (hn1 : 1 ≤ n) : MI l yX7_pass cX7_pass 2 (some .int) 12 261 D sz [.ref (L 0), .int (nI n)] (mW D L (s, pa, nI P, 0, S4)) (phN s n) (mW D L (phF s n, (pushR s pa P).1, nI (pushR s pa P).2, 0, S4)) := by
  refine r_enterI (by decide) (Nat.le_of_ble_eq_true rfl) ?_
  intro p e st m args below meth c ls A X hret hk hw hl
  have X : CX D p m c cX7_pass 2 st args RX7 A := X
  have hx := X.1.1
  have hb := X.1.2.1
  have hown := X.1.2.2.2.1
  have hts := X.1.2.2.2.2
  have hl : lv_has ls 2 [(0, .ref (L 0)), (1, .int (nI n))] := hl
  refine lv_iload_n hx hb dX7_pass_0 rfl (lv_at hl 1 rfl) ?_
  refine lv_iconst (v := 1) hx hb dX7_pass_1 (by decide) ?_
  refine lv_sipush (v := 9999) hx hb dX7_pass_2 (by decide) ?_
  refine r_callS X hw (ws' := mW D L (s, pa, nI P, 0, S4)) (As := [.int (nI n), .int 1, .int 9999]) (rest := []) lk_X7_45 (c_X7_in l D _ (nI n) 1 9999) Foc.nil rfl hl.1 (Nat.le_of_ble_eq_true rfl) ⟨Nat.le_of_ble_eq_true rfl, Nat.le_of_ble_eq_true rfl⟩ rfl dX7_pass_5 ⟨Nat.le_refl _, Nat.le_refl _⟩ (fun H locs hw => ?_)
  refine lv_if_ne (tgt := 14) hx hb dX7_pass_8 (by decide) (fun _ => ?_) (fun h => absurd h (in_okL n 1 9999 (by omega) (by omega) (by decide)))
  refine lv_aload_n hx hb dX7_pass_14 rfl (lv_at hl 0 rfl) ?_
  refine r_callVv X hw (ws' := mW D L (s, (pushR s pa P).1, nI (pushR s pa P).2, 0, S4)) (As := []) (rest := []) lk_X7_107 (c_X7_changes0 l D _ L s pa P 0 S4 (by omega)) Foc.all (m_at 0 rfl) rfl hl.1 (Nat.le_of_ble_eq_true rfl) ⟨Nat.le_of_ble_eq_true rfl, Nat.le_of_ble_eq_true rfl⟩ rfl dX7_pass_15 ⟨Nat.le_refl _, Nat.le_refl _⟩ (fun H locs hw => ?_)
  refine lv_aload_n hx hb dX7_pass_18 rfl (lv_at hl 0 rfl) ?_
  refine lv_iload_n hx hb dX7_pass_19 rfl (lv_at hl 1 rfl) ?_
  refine r_callV X hw (ws' := mW D L (phF s n, (pushR s pa P).1, nI (pushR s pa P).2, 0, S4)) (As := [.int (nI n)]) (rest := []) lk_X7_110 (c_X7_passes l D _ L s ((pushR s pa P).1, nI (pushR s pa P).2, 0, S4) n (by omega)) Foc.all (m_at 0 rfl) rfl hl.1 (Nat.le_of_ble_eq_true rfl) ⟨Nat.le_of_ble_eq_true rfl, Nat.le_of_ble_eq_true rfl⟩ rfl dX7_pass_20 ⟨Nat.le_refl _, Nat.le_refl _⟩ (fun H locs hw => ?_)
  exact r_ret X hw hk hret rfl rfl rfl dX7_pass_23

set_option maxRecDepth 100000 in
set_option maxHeartbeats 4000000 in
theorem c_X7_pass_bad (l : Launch) (D : va_G) (sz : Nat) (L : Nat → Nat) (S : MSt) (a1 : Int32) (hbad : ¬ (¬ sp_X7_in a1 1 9999 = 0)) : MI l yX7_pass cX7_pass 2 (some .int) 1 22 D sz [.ref (L 0), .int a1] (mW D L S) (-1000001) (mW D L S) := by
  refine r_enterI (by decide) (Nat.le_of_ble_eq_true rfl) ?_
  intro p e st m args below meth c ls A X hret hk hw hl
  have X : CX D p m c cX7_pass 2 st args RX7 A := X
  have hx := X.1.1
  have hb := X.1.2.1
  have hown := X.1.2.2.2.1
  have hts := X.1.2.2.2.2
  have hl : lv_has ls 2 [(0, .ref (L 0)), (1, .int a1)] := hl
  refine lv_iload_n hx hb dX7_pass_0 rfl (lv_at hl 1 rfl) ?_
  refine lv_iconst (v := 1) hx hb dX7_pass_1 (by decide) ?_
  refine lv_sipush (v := 9999) hx hb dX7_pass_2 (by decide) ?_
  refine r_callS X hw (ws' := mW D L S) (As := [.int a1, .int 1, .int 9999]) (rest := []) lk_X7_45 (c_X7_in l D _ a1 1 9999) Foc.nil rfl hl.1 (Nat.le_of_ble_eq_true rfl) ⟨Nat.le_of_ble_eq_true rfl, Nat.le_of_ble_eq_true rfl⟩ rfl dX7_pass_5 ⟨Nat.le_refl _, Nat.le_refl _⟩ (fun H locs hw => ?_)
  refine lv_if_ne (tgt := 14) hx hb dX7_pass_8 (by decide) (fun c1 => ?_) (fun c1 => ?_)
  · skip
    exact absurd c1 hbad
  · skip
    refine lv_ldc (v := (-1000001)) hx hb hown (hts _ kc_X7_106) dX7_pass_11 ?_
    exact r_ret X hw hk hret rfl rfl rfl dX7_pass_13

set_option maxRecDepth 100000 in
set_option maxHeartbeats 4000000 in
theorem c_X7_burst_1 (l : Launch) (D : va_G) (sz : Nat) (L : Nat → Nat) (s pa : Row) (P : Nat) (td ah sh : Row) (n0 : Int32) (S8 : MT8) (pp z q md : Nat) (hP : P ≤ 4) (hok : rOK s pp z q) (hmd : md < 3) : MI l yX7_burst cX7_burst 2 (some .int) 14 308 D sz [.ref (L 0), .int (nI md)] (mW D L (s, pa, nI P, 1, td, ah, sh, n0, S8)) (bTorn (buR s td ah sh q md).1) (mW D L (buS s td ah sh q md, pa, nI P, 1, (buR s td ah sh q md).1.2.1, (buR s td ah sh q md).1.2.2.1, (buR s td ah sh q md).1.2.2.2.1, nI (buR s td ah sh q md).1.2.2.2.2, S8)) := by
  refine r_enterI (by decide) (Nat.le_of_ble_eq_true rfl) ?_
  intro p e st m args below meth c ls A X hret hk hw hl
  have X : CX D p m c cX7_burst 2 st args RX7 A := X
  have hx := X.1.1
  have hb := X.1.2.1
  have hown := X.1.2.2.2.1
  have hts := X.1.2.2.2.2
  have hl : lv_has ls 2 [(0, .ref (L 0)), (1, .int (nI md))] := hl
  refine lv_iload_n hx hb dX7_burst_0 rfl (lv_at hl 1 rfl) ?_
  refine lv_iconst (v := 0) hx hb dX7_burst_1 (by decide) ?_
  refine lv_iconst (v := 2) hx hb dX7_burst_2 (by decide) ?_
  refine r_callS X hw (ws' := mW D L (s, pa, nI P, 1, td, ah, sh, n0, S8)) (As := [.int (nI md), .int 0, .int 2]) (rest := []) lk_X7_45 (c_X7_in l D _ (nI md) 0 2) Foc.nil rfl hl.1 (Nat.le_of_ble_eq_true rfl) ⟨Nat.le_of_ble_eq_true rfl, Nat.le_of_ble_eq_true rfl⟩ rfl dX7_burst_3 ⟨Nat.le_refl _, Nat.le_refl _⟩ (fun H locs hw => ?_)
  refine lv_if_ne (tgt := 12) hx hb dX7_burst_6 (by decide) (fun _ => ?_) (fun h => absurd h (in_ok md 2 (by omega) (by decide)))
  refine lv_aload_n hx hb dX7_burst_12 rfl (lv_at hl 0 rfl) ?_
  refine r_callVv X hw (ws' := mW D L (s, pa, nI P, 1, td, ah, sh, n0, S8)) (As := []) (rest := []) lk_X7_107 (c_X7_changesR l D _ L s pa P 1 (td, ah, sh, n0, S8) (by omega) (by decide)) Foc.all (m_at 0 rfl) rfl hl.1 (Nat.le_of_ble_eq_true rfl) ⟨Nat.le_of_ble_eq_true rfl, Nat.le_of_ble_eq_true rfl⟩ rfl dX7_burst_13 ⟨Nat.le_refl _, Nat.le_refl _⟩ (fun H locs hw => ?_)
  refine lv_aload_n hx hb dX7_burst_16 rfl (lv_at hl 0 rfl) ?_
  refine lv_iload_n hx hb dX7_burst_17 rfl (lv_at hl 1 rfl) ?_
  refine r_callV X hw (ws' := mW D L (buS s td ah sh q md, pa, nI P, 1, (buR s td ah sh q md).1.2.1, (buR s td ah sh q md).1.2.2.1, (buR s td ah sh q md).1.2.2.2.1, nI (buR s td ah sh q md).1.2.2.2.2, S8)) (As := [.int (nI md)]) (rest := []) lk_X7_134 (c_X7_bursts l D _ L s pa (nI P) 1 td ah sh n0 S8 pp z q md hok (by omega)) Foc.all (m_at 0 rfl) rfl hl.1 (Nat.le_of_ble_eq_true rfl) ⟨Nat.le_of_ble_eq_true rfl, Nat.le_of_ble_eq_true rfl⟩ rfl dX7_burst_18 ⟨Nat.le_refl _, Nat.le_refl _⟩ (fun H locs hw => ?_)
  exact r_ret X hw hk hret rfl rfl rfl dX7_burst_21

set_option maxRecDepth 100000 in
set_option maxHeartbeats 4000000 in
theorem c_X7_burst_0 (l : Launch) (D : va_G) (sz : Nat) (L : Nat → Nat) (s pa : Row) (P : Nat) (td ah sh : Row) (n0 : Int32) (S8 : MT8) (pp z q md : Nat) (hP : P ≤ 4) (hok : rOK s pp z q) (hmd : md < 3) : MI l yX7_burst cX7_burst 2 (some .int) 14 308 D sz [.ref (L 0), .int (nI md)] (mW D L (s, pa, nI P, 0, td, ah, sh, n0, S8)) (bTorn (buR s td ah sh q md).1) (mW D L (buS s td ah sh q md, (pushR s pa P).1, nI (pushR s pa P).2, 0, (buR s td ah sh q md).1.2.1, (buR s td ah sh q md).1.2.2.1, (buR s td ah sh q md).1.2.2.2.1, nI (buR s td ah sh q md).1.2.2.2.2, S8)) := by
  refine r_enterI (by decide) (Nat.le_of_ble_eq_true rfl) ?_
  intro p e st m args below meth c ls A X hret hk hw hl
  have X : CX D p m c cX7_burst 2 st args RX7 A := X
  have hx := X.1.1
  have hb := X.1.2.1
  have hown := X.1.2.2.2.1
  have hts := X.1.2.2.2.2
  have hl : lv_has ls 2 [(0, .ref (L 0)), (1, .int (nI md))] := hl
  refine lv_iload_n hx hb dX7_burst_0 rfl (lv_at hl 1 rfl) ?_
  refine lv_iconst (v := 0) hx hb dX7_burst_1 (by decide) ?_
  refine lv_iconst (v := 2) hx hb dX7_burst_2 (by decide) ?_
  refine r_callS X hw (ws' := mW D L (s, pa, nI P, 0, td, ah, sh, n0, S8)) (As := [.int (nI md), .int 0, .int 2]) (rest := []) lk_X7_45 (c_X7_in l D _ (nI md) 0 2) Foc.nil rfl hl.1 (Nat.le_of_ble_eq_true rfl) ⟨Nat.le_of_ble_eq_true rfl, Nat.le_of_ble_eq_true rfl⟩ rfl dX7_burst_3 ⟨Nat.le_refl _, Nat.le_refl _⟩ (fun H locs hw => ?_)
  refine lv_if_ne (tgt := 12) hx hb dX7_burst_6 (by decide) (fun _ => ?_) (fun h => absurd h (in_ok md 2 (by omega) (by decide)))
  refine lv_aload_n hx hb dX7_burst_12 rfl (lv_at hl 0 rfl) ?_
  refine r_callVv X hw (ws' := mW D L (s, (pushR s pa P).1, nI (pushR s pa P).2, 0, td, ah, sh, n0, S8)) (As := []) (rest := []) lk_X7_107 (c_X7_changes0 l D _ L s pa P 0 (td, ah, sh, n0, S8) (by omega)) Foc.all (m_at 0 rfl) rfl hl.1 (Nat.le_of_ble_eq_true rfl) ⟨Nat.le_of_ble_eq_true rfl, Nat.le_of_ble_eq_true rfl⟩ rfl dX7_burst_13 ⟨Nat.le_refl _, Nat.le_refl _⟩ (fun H locs hw => ?_)
  refine lv_aload_n hx hb dX7_burst_16 rfl (lv_at hl 0 rfl) ?_
  refine lv_iload_n hx hb dX7_burst_17 rfl (lv_at hl 1 rfl) ?_
  refine r_callV X hw (ws' := mW D L (buS s td ah sh q md, (pushR s pa P).1, nI (pushR s pa P).2, 0, (buR s td ah sh q md).1.2.1, (buR s td ah sh q md).1.2.2.1, (buR s td ah sh q md).1.2.2.2.1, nI (buR s td ah sh q md).1.2.2.2.2, S8)) (As := [.int (nI md)]) (rest := []) lk_X7_134 (c_X7_bursts l D _ L s ((pushR s pa P).1) (nI (pushR s pa P).2) 0 td ah sh n0 S8 pp z q md hok (by omega)) Foc.all (m_at 0 rfl) rfl hl.1 (Nat.le_of_ble_eq_true rfl) ⟨Nat.le_of_ble_eq_true rfl, Nat.le_of_ble_eq_true rfl⟩ rfl dX7_burst_18 ⟨Nat.le_refl _, Nat.le_refl _⟩ (fun H locs hw => ?_)
  exact r_ret X hw hk hret rfl rfl rfl dX7_burst_21

set_option maxRecDepth 100000 in
set_option maxHeartbeats 4000000 in
theorem c_X7_burst_bad (l : Launch) (D : va_G) (sz : Nat) (L : Nat → Nat) (S : MSt) (a1 : Int32) (hbad : ¬ (¬ sp_X7_in a1 0 2 = 0)) : MI l yX7_burst cX7_burst 2 (some .int) 1 22 D sz [.ref (L 0), .int a1] (mW D L S) (-1000001) (mW D L S) := by
  refine r_enterI (by decide) (Nat.le_of_ble_eq_true rfl) ?_
  intro p e st m args below meth c ls A X hret hk hw hl
  have X : CX D p m c cX7_burst 2 st args RX7 A := X
  have hx := X.1.1
  have hb := X.1.2.1
  have hown := X.1.2.2.2.1
  have hts := X.1.2.2.2.2
  have hl : lv_has ls 2 [(0, .ref (L 0)), (1, .int a1)] := hl
  refine lv_iload_n hx hb dX7_burst_0 rfl (lv_at hl 1 rfl) ?_
  refine lv_iconst (v := 0) hx hb dX7_burst_1 (by decide) ?_
  refine lv_iconst (v := 2) hx hb dX7_burst_2 (by decide) ?_
  refine r_callS X hw (ws' := mW D L S) (As := [.int a1, .int 0, .int 2]) (rest := []) lk_X7_45 (c_X7_in l D _ a1 0 2) Foc.nil rfl hl.1 (Nat.le_of_ble_eq_true rfl) ⟨Nat.le_of_ble_eq_true rfl, Nat.le_of_ble_eq_true rfl⟩ rfl dX7_burst_3 ⟨Nat.le_refl _, Nat.le_refl _⟩ (fun H locs hw => ?_)
  refine lv_if_ne (tgt := 12) hx hb dX7_burst_6 (by decide) (fun c1 => ?_) (fun c1 => ?_)
  · skip
    exact absurd c1 hbad
  · skip
    refine lv_ldc (v := (-1000001)) hx hb hown (hts _ kc_X7_106) dX7_burst_9 ?_
    exact r_ret X hw hk hret rfl rfl rfl dX7_burst_11

noncomputable def sp_X7_alarm (s : Row) (a : Nat) (r : Nat) (v : Nat) : Int32 × Row := (s (40 + 9 * a + r), upd s (40 + 9 * a + r) (nI v))
set_option maxRecDepth 100000 in
set_option maxHeartbeats 4000000 in
theorem c_X7_alarm_1 (l : Launch) (D : va_G) (sz : Nat) (L : Nat → Nat) (s pa : Row) (P : Nat) (S4 : MT4) (a : Nat) (r : Nat) (v : Nat) (ha : a < 3) (hr : r < 5) (hv : v < 256) (hP : P ≤ 4) : MI l yX7_alarm cX7_alarm 5 (some .int) 2 42 D sz [.ref (L 0), .int (nI a), .int (nI r), .int (nI v)] (mW D L (s, pa, nI P, 1, S4)) ((sp_X7_alarm s a r v).1) (mW D L ((sp_X7_alarm s a r v).2, pa, nI P, 1, S4)) := by
  refine r_enterI (by decide) (Nat.le_of_ble_eq_true rfl) ?_
  intro p e st m args below meth c ls A X hret hk hw hl
  have X : CX D p m c cX7_alarm 5 st args RX7 A := X
  have hx := X.1.1
  have hb := X.1.2.1
  have hown := X.1.2.2.2.1
  have hts := X.1.2.2.2.2
  have hl : lv_has ls 5 [(0, .ref (L 0)), (1, .int (nI a)), (2, .int (nI r)), (3, .int (nI v))] := hl
  refine lv_iload_n hx hb dX7_alarm_0 rfl (lv_at hl 1 rfl) ?_
  refine r_callS X hw (ws' := mW D L (s, pa, nI P, 1, S4)) (As := [.int (nI a)]) (rest := []) lk_X7_137 (c_X7_isAlarm l D _ (nI a)) Foc.nil rfl hl.1 (Nat.le_of_ble_eq_true rfl) ⟨Nat.le_of_ble_eq_true rfl, Nat.le_of_ble_eq_true rfl⟩ rfl dX7_alarm_1 ⟨Nat.le_refl _, Nat.le_refl _⟩ (fun H locs hw => ?_)
  refine lv_if_eq (tgt := 27) hx hb dX7_alarm_4 (by decide) (fun h => absurd h (isAl_ok (by omega))) (fun _ => ?_)
  refine lv_iload_n hx hb dX7_alarm_7 rfl (lv_at hl 2 rfl) ?_
  refine lv_iconst (v := 0) hx hb dX7_alarm_8 (by decide) ?_
  refine lv_iconst (v := 4) hx hb dX7_alarm_9 (by decide) ?_
  refine r_callS X hw (ws' := mW D L (s, pa, nI P, 1, S4)) (As := [.int (nI r), .int 0, .int 4]) (rest := []) lk_X7_45 (c_X7_in l D _ (nI r) 0 4) Foc.nil rfl hl.1 (Nat.le_of_ble_eq_true rfl) ⟨Nat.le_of_ble_eq_true rfl, Nat.le_of_ble_eq_true rfl⟩ rfl dX7_alarm_10 ⟨Nat.le_refl _, Nat.le_refl _⟩ (fun H locs hw => ?_)
  refine lv_if_eq (tgt := 27) hx hb dX7_alarm_13 (by decide) (fun h => absurd h (in_ok r 4 (by omega) (by decide))) (fun _ => ?_)
  refine lv_iload_n hx hb dX7_alarm_16 rfl (lv_at hl 3 rfl) ?_
  refine lv_iconst (v := 0) hx hb dX7_alarm_17 (by decide) ?_
  refine lv_sipush (v := 255) hx hb dX7_alarm_18 (by decide) ?_
  refine r_callS X hw (ws' := mW D L (s, pa, nI P, 1, S4)) (As := [.int (nI v), .int 0, .int 255]) (rest := []) lk_X7_45 (c_X7_in l D _ (nI v) 0 255) Foc.nil rfl hl.1 (Nat.le_of_ble_eq_true rfl) ⟨Nat.le_of_ble_eq_true rfl, Nat.le_of_ble_eq_true rfl⟩ rfl dX7_alarm_21 ⟨Nat.le_refl _, Nat.le_refl _⟩ (fun H locs hw => ?_)
  refine lv_if_ne (tgt := 30) hx hb dX7_alarm_24 (by decide) (fun _ => ?_) (fun h => absurd h (in_ok v 255 (by omega) (by decide)))
  refine lv_aload_n hx hb dX7_alarm_30 rfl (lv_at hl 0 rfl) ?_
  refine r_callVv X hw (ws' := mW D L (s, pa, nI P, 1, S4)) (As := []) (rest := []) lk_X7_107 (c_X7_changesR l D _ L s pa P 1 S4 (by omega) (by decide)) Foc.all (m_at 0 rfl) rfl hl.1 (Nat.le_of_ble_eq_true rfl) ⟨Nat.le_of_ble_eq_true rfl, Nat.le_of_ble_eq_true rfl⟩ rfl dX7_alarm_31 ⟨Nat.le_refl _, Nat.le_refl _⟩ (fun H locs hw => ?_)
  refine lv_aload_n hx hb dX7_alarm_34 rfl (lv_at hl 0 rfl) ?_
  refine r_get X hw (v := .ref (L 1)) fl_X7_7 (m_at 0 rfl) rfl dX7_alarm_35 ?_
  refine lv_iload_n hx hb dX7_alarm_38 rfl (lv_at hl 1 rfl) ?_
  refine r_callS X hw (ws' := mW D L (s, pa, nI P, 1, S4)) (As := [.int (nI a)]) (rest := [.ref (L 1)]) lk_X7_88 (c_X7_alarmAtN l D _ a (by omega)) Foc.nil rfl hl.1 (Nat.le_of_ble_eq_true rfl) ⟨Nat.le_of_ble_eq_true rfl, Nat.le_of_ble_eq_true rfl⟩ rfl dX7_alarm_39 ⟨Nat.le_refl _, Nat.le_refl _⟩ (fun H locs hw => ?_)
  refine lv_iload_n hx hb dX7_alarm_42 rfl (lv_at hl 2 rfl) ?_
  refine r_addN hx hb (40 + 9 * a) r rfl rfl dX7_alarm_43 ?_
  refine r_iald X hw (f := s) (40 + 9 * a + r) (m_at 1 rfl) rfl (by omega) (by decide) dX7_alarm_44 ?_
  refine lv_istore (lv' := [(4, .int (s (40 + 9 * a + r))), (0, .ref (L 0)), (1, .int (nI a)), (2, .int (nI r)), (3, .int (nI v))]) hx hb dX7_alarm_45 hl (by decide) rfl (fun ls hl => ?_)
  refine lv_aload_n hx hb dX7_alarm_47 rfl (lv_at hl 1 rfl) ?_
  refine r_get X hw (v := .ref (L 1)) fl_X7_7 (m_at 0 rfl) rfl dX7_alarm_48 ?_
  refine lv_iload_n hx hb dX7_alarm_51 rfl (lv_at hl 2 rfl) ?_
  refine r_callS X hw (ws' := mW D L (s, pa, nI P, 1, S4)) (As := [.int (nI a)]) (rest := [.ref (L 1)]) lk_X7_88 (c_X7_alarmAtN l D _ a (by omega)) Foc.nil rfl hl.1 (Nat.le_of_ble_eq_true rfl) ⟨Nat.le_of_ble_eq_true rfl, Nat.le_of_ble_eq_true rfl⟩ rfl dX7_alarm_52 ⟨Nat.le_refl _, Nat.le_refl _⟩ (fun H locs hw => ?_)
  refine lv_iload_n hx hb dX7_alarm_55 rfl (lv_at hl 3 rfl) ?_
  refine r_addN hx hb (40 + 9 * a) r rfl rfl dX7_alarm_56 ?_
  refine lv_iload_n hx hb dX7_alarm_57 rfl (lv_at hl 4 rfl) ?_
  refine r_iast X hw (ws' := mW D L (upd s (40 + 9 * a + r) (nI v), pa, nI P, 1, S4)) (40 + 9 * a + r) rfl (by omega) (by decide) (Foc.cell 1 rfl rfl rfl) dX7_alarm_58 (fun H locs hw => ?_)
  refine lv_iload hx hb dX7_alarm_59 (lv_at hl 0 rfl) ?_
  exact r_ret X hw hk hret rfl (rfl) (rfl) dX7_alarm_61

set_option maxRecDepth 100000 in
set_option maxHeartbeats 4000000 in
theorem c_X7_alarm_0 (l : Launch) (D : va_G) (sz : Nat) (L : Nat → Nat) (s pa : Row) (P : Nat) (S4 : MT4) (a : Nat) (r : Nat) (v : Nat) (ha : a < 3) (hr : r < 5) (hv : v < 256) (hP : P ≤ 4) : MI l yX7_alarm cX7_alarm 5 (some .int) 2 42 D sz [.ref (L 0), .int (nI a), .int (nI r), .int (nI v)] (mW D L (s, pa, nI P, 0, S4)) ((sp_X7_alarm s a r v).1) (mW D L ((sp_X7_alarm s a r v).2, (pushR s pa P).1, nI (pushR s pa P).2, 0, S4)) := by
  refine r_enterI (by decide) (Nat.le_of_ble_eq_true rfl) ?_
  intro p e st m args below meth c ls A X hret hk hw hl
  have X : CX D p m c cX7_alarm 5 st args RX7 A := X
  have hx := X.1.1
  have hb := X.1.2.1
  have hown := X.1.2.2.2.1
  have hts := X.1.2.2.2.2
  have hl : lv_has ls 5 [(0, .ref (L 0)), (1, .int (nI a)), (2, .int (nI r)), (3, .int (nI v))] := hl
  refine lv_iload_n hx hb dX7_alarm_0 rfl (lv_at hl 1 rfl) ?_
  refine r_callS X hw (ws' := mW D L (s, pa, nI P, 0, S4)) (As := [.int (nI a)]) (rest := []) lk_X7_137 (c_X7_isAlarm l D _ (nI a)) Foc.nil rfl hl.1 (Nat.le_of_ble_eq_true rfl) ⟨Nat.le_of_ble_eq_true rfl, Nat.le_of_ble_eq_true rfl⟩ rfl dX7_alarm_1 ⟨Nat.le_refl _, Nat.le_refl _⟩ (fun H locs hw => ?_)
  refine lv_if_eq (tgt := 27) hx hb dX7_alarm_4 (by decide) (fun h => absurd h (isAl_ok (by omega))) (fun _ => ?_)
  refine lv_iload_n hx hb dX7_alarm_7 rfl (lv_at hl 2 rfl) ?_
  refine lv_iconst (v := 0) hx hb dX7_alarm_8 (by decide) ?_
  refine lv_iconst (v := 4) hx hb dX7_alarm_9 (by decide) ?_
  refine r_callS X hw (ws' := mW D L (s, pa, nI P, 0, S4)) (As := [.int (nI r), .int 0, .int 4]) (rest := []) lk_X7_45 (c_X7_in l D _ (nI r) 0 4) Foc.nil rfl hl.1 (Nat.le_of_ble_eq_true rfl) ⟨Nat.le_of_ble_eq_true rfl, Nat.le_of_ble_eq_true rfl⟩ rfl dX7_alarm_10 ⟨Nat.le_refl _, Nat.le_refl _⟩ (fun H locs hw => ?_)
  refine lv_if_eq (tgt := 27) hx hb dX7_alarm_13 (by decide) (fun h => absurd h (in_ok r 4 (by omega) (by decide))) (fun _ => ?_)
  refine lv_iload_n hx hb dX7_alarm_16 rfl (lv_at hl 3 rfl) ?_
  refine lv_iconst (v := 0) hx hb dX7_alarm_17 (by decide) ?_
  refine lv_sipush (v := 255) hx hb dX7_alarm_18 (by decide) ?_
  refine r_callS X hw (ws' := mW D L (s, pa, nI P, 0, S4)) (As := [.int (nI v), .int 0, .int 255]) (rest := []) lk_X7_45 (c_X7_in l D _ (nI v) 0 255) Foc.nil rfl hl.1 (Nat.le_of_ble_eq_true rfl) ⟨Nat.le_of_ble_eq_true rfl, Nat.le_of_ble_eq_true rfl⟩ rfl dX7_alarm_21 ⟨Nat.le_refl _, Nat.le_refl _⟩ (fun H locs hw => ?_)
  refine lv_if_ne (tgt := 30) hx hb dX7_alarm_24 (by decide) (fun _ => ?_) (fun h => absurd h (in_ok v 255 (by omega) (by decide)))
  refine lv_aload_n hx hb dX7_alarm_30 rfl (lv_at hl 0 rfl) ?_
  refine r_callVv X hw (ws' := mW D L (s, (pushR s pa P).1, nI (pushR s pa P).2, 0, S4)) (As := []) (rest := []) lk_X7_107 (c_X7_changes0 l D _ L s pa P 0 S4 (by omega)) Foc.all (m_at 0 rfl) rfl hl.1 (Nat.le_of_ble_eq_true rfl) ⟨Nat.le_of_ble_eq_true rfl, Nat.le_of_ble_eq_true rfl⟩ rfl dX7_alarm_31 ⟨Nat.le_refl _, Nat.le_refl _⟩ (fun H locs hw => ?_)
  refine lv_aload_n hx hb dX7_alarm_34 rfl (lv_at hl 0 rfl) ?_
  refine r_get X hw (v := .ref (L 1)) fl_X7_7 (m_at 0 rfl) rfl dX7_alarm_35 ?_
  refine lv_iload_n hx hb dX7_alarm_38 rfl (lv_at hl 1 rfl) ?_
  refine r_callS X hw (ws' := mW D L (s, (pushR s pa P).1, nI (pushR s pa P).2, 0, S4)) (As := [.int (nI a)]) (rest := [.ref (L 1)]) lk_X7_88 (c_X7_alarmAtN l D _ a (by omega)) Foc.nil rfl hl.1 (Nat.le_of_ble_eq_true rfl) ⟨Nat.le_of_ble_eq_true rfl, Nat.le_of_ble_eq_true rfl⟩ rfl dX7_alarm_39 ⟨Nat.le_refl _, Nat.le_refl _⟩ (fun H locs hw => ?_)
  refine lv_iload_n hx hb dX7_alarm_42 rfl (lv_at hl 2 rfl) ?_
  refine r_addN hx hb (40 + 9 * a) r rfl rfl dX7_alarm_43 ?_
  refine r_iald X hw (f := s) (40 + 9 * a + r) (m_at 1 rfl) rfl (by omega) (by decide) dX7_alarm_44 ?_
  refine lv_istore (lv' := [(4, .int (s (40 + 9 * a + r))), (0, .ref (L 0)), (1, .int (nI a)), (2, .int (nI r)), (3, .int (nI v))]) hx hb dX7_alarm_45 hl (by decide) rfl (fun ls hl => ?_)
  refine lv_aload_n hx hb dX7_alarm_47 rfl (lv_at hl 1 rfl) ?_
  refine r_get X hw (v := .ref (L 1)) fl_X7_7 (m_at 0 rfl) rfl dX7_alarm_48 ?_
  refine lv_iload_n hx hb dX7_alarm_51 rfl (lv_at hl 2 rfl) ?_
  refine r_callS X hw (ws' := mW D L (s, (pushR s pa P).1, nI (pushR s pa P).2, 0, S4)) (As := [.int (nI a)]) (rest := [.ref (L 1)]) lk_X7_88 (c_X7_alarmAtN l D _ a (by omega)) Foc.nil rfl hl.1 (Nat.le_of_ble_eq_true rfl) ⟨Nat.le_of_ble_eq_true rfl, Nat.le_of_ble_eq_true rfl⟩ rfl dX7_alarm_52 ⟨Nat.le_refl _, Nat.le_refl _⟩ (fun H locs hw => ?_)
  refine lv_iload_n hx hb dX7_alarm_55 rfl (lv_at hl 3 rfl) ?_
  refine r_addN hx hb (40 + 9 * a) r rfl rfl dX7_alarm_56 ?_
  refine lv_iload_n hx hb dX7_alarm_57 rfl (lv_at hl 4 rfl) ?_
  refine r_iast X hw (ws' := mW D L (upd s (40 + 9 * a + r) (nI v), (pushR s pa P).1, nI (pushR s pa P).2, 0, S4)) (40 + 9 * a + r) rfl (by omega) (by decide) (Foc.cell 1 rfl rfl rfl) dX7_alarm_58 (fun H locs hw => ?_)
  refine lv_iload hx hb dX7_alarm_59 (lv_at hl 0 rfl) ?_
  exact r_ret X hw hk hret rfl (rfl) (rfl) dX7_alarm_61

set_option maxRecDepth 100000 in
set_option maxHeartbeats 4000000 in
theorem c_X7_alarm_bad (l : Launch) (D : va_G) (sz : Nat) (L : Nat → Nat) (S : MSt) (a1 a2 a3 : Int32) (hbad : ¬ ((¬ sp_X7_isAlarm a1 = 0) ∧ (¬ sp_X7_in a2 0 4 = 0) ∧ ¬ sp_X7_in a3 0 255 = 0)) : MI l yX7_alarm cX7_alarm 5 (some .int) 2 42 D sz [.ref (L 0), .int a1, .int a2, .int a3] (mW D L S) (-1000001) (mW D L S) := by
  refine r_enterI (by decide) (Nat.le_of_ble_eq_true rfl) ?_
  intro p e st m args below meth c ls A X hret hk hw hl
  have X : CX D p m c cX7_alarm 5 st args RX7 A := X
  have hx := X.1.1
  have hb := X.1.2.1
  have hown := X.1.2.2.2.1
  have hts := X.1.2.2.2.2
  have hl : lv_has ls 5 [(0, .ref (L 0)), (1, .int a1), (2, .int a2), (3, .int a3)] := hl
  refine lv_iload_n hx hb dX7_alarm_0 rfl (lv_at hl 1 rfl) ?_
  refine r_callS X hw (ws' := mW D L S) (As := [.int a1]) (rest := []) lk_X7_137 (c_X7_isAlarm l D _ a1) Foc.nil rfl hl.1 (Nat.le_of_ble_eq_true rfl) ⟨Nat.le_of_ble_eq_true rfl, Nat.le_of_ble_eq_true rfl⟩ rfl dX7_alarm_1 ⟨Nat.le_refl _, Nat.le_refl _⟩ (fun H locs hw => ?_)
  refine lv_if_eq (tgt := 27) hx hb dX7_alarm_4 (by decide) (fun c1 => ?_) (fun c1 => ?_)
  · skip
    refine lv_ldc (v := (-1000001)) hx hb hown (hts _ kc_X7_106) dX7_alarm_27 ?_
    exact r_ret X hw hk hret rfl rfl rfl dX7_alarm_29
  · skip
    refine lv_iload_n hx hb dX7_alarm_7 rfl (lv_at hl 2 rfl) ?_
    refine lv_iconst (v := 0) hx hb dX7_alarm_8 (by decide) ?_
    refine lv_iconst (v := 4) hx hb dX7_alarm_9 (by decide) ?_
    refine r_callS X hw (ws' := mW D L S) (As := [.int a2, .int 0, .int 4]) (rest := []) lk_X7_45 (c_X7_in l D _ a2 0 4) Foc.nil rfl hl.1 (Nat.le_of_ble_eq_true rfl) ⟨Nat.le_of_ble_eq_true rfl, Nat.le_of_ble_eq_true rfl⟩ rfl dX7_alarm_10 ⟨Nat.le_refl _, Nat.le_refl _⟩ (fun H locs hw => ?_)
    refine lv_if_eq (tgt := 27) hx hb dX7_alarm_13 (by decide) (fun c2 => ?_) (fun c2 => ?_)
    · skip
      refine lv_ldc (v := (-1000001)) hx hb hown (hts _ kc_X7_106) dX7_alarm_27 ?_
      exact r_ret X hw hk hret rfl rfl rfl dX7_alarm_29
    · skip
      refine lv_iload_n hx hb dX7_alarm_16 rfl (lv_at hl 3 rfl) ?_
      refine lv_iconst (v := 0) hx hb dX7_alarm_17 (by decide) ?_
      refine lv_sipush (v := 255) hx hb dX7_alarm_18 (by decide) ?_
      refine r_callS X hw (ws' := mW D L S) (As := [.int a3, .int 0, .int 255]) (rest := []) lk_X7_45 (c_X7_in l D _ a3 0 255) Foc.nil rfl hl.1 (Nat.le_of_ble_eq_true rfl) ⟨Nat.le_of_ble_eq_true rfl, Nat.le_of_ble_eq_true rfl⟩ rfl dX7_alarm_21 ⟨Nat.le_refl _, Nat.le_refl _⟩ (fun H locs hw => ?_)
      refine lv_if_ne (tgt := 30) hx hb dX7_alarm_24 (by decide) (fun c3 => ?_) (fun c3 => ?_)
      · skip
        exact absurd ⟨c1, c2, c3⟩ hbad
      · skip
        refine lv_ldc (v := (-1000001)) hx hb hown (hts _ kc_X7_106) dX7_alarm_27 ?_
        exact r_ret X hw hk hret rfl rfl rfl dX7_alarm_29
end
section
theorem in_okM (k N : Nat) (h : k ≤ N) (hN : N < 2147483648) : ¬ sp_X7_in (nI k) (-1) (nI N) = 0 := by
  unfold sp_X7_in
  rw [if_neg (fun q => nI_pos (n := k) (by omega) (Int32.lt_trans q (by decide))), if_neg (fun q => absurd ((nI_ltI (by omega) (by omega)).mp q) (by omega))]
  decide

noncomputable def sp_X7_arm (s : Row) (a : Nat) (v : Nat) : Int32 × Row := (if 0 ≤ (nI v) then (if 0 ≤ (nI v) then (s (40 + 9 * a + 6), upd (upd s (40 + 9 * a + 6) 1) (40 + 9 * a + 5) (nI v)) else (s (40 + 9 * a + 6), upd (upd s (40 + 9 * a + 6) 1) (40 + 9 * a + 5) ((upd s (40 + 9 * a + 6) 1) (40 + 9 * a + 5)))) else (if 0 ≤ (nI v) then (s (40 + 9 * a + 6), upd (upd s (40 + 9 * a + 6) 0) (40 + 9 * a + 5) (nI v)) else (s (40 + 9 * a + 6), upd (upd s (40 + 9 * a + 6) 0) (40 + 9 * a + 5) ((upd s (40 + 9 * a + 6) 0) (40 + 9 * a + 5)))))
set_option maxRecDepth 100000 in
set_option maxHeartbeats 4000000 in
theorem c_X7_arm_1 (l : Launch) (D : va_G) (sz : Nat) (L : Nat → Nat) (s pa : Row) (P : Nat) (S4 : MT4) (a : Nat) (v : Nat) (ha : a < 3) (hv : v < 32) (hP : P ≤ 4) : MI l yX7_arm cX7_arm 5 (some .int) 2 42 D sz [.ref (L 0), .int (nI a), .int (nI v)] (mW D L (s, pa, nI P, 1, S4)) ((sp_X7_arm s a v).1) (mW D L ((sp_X7_arm s a v).2, pa, nI P, 1, S4)) := by
  refine r_enterI (by decide) (Nat.le_of_ble_eq_true rfl) ?_
  intro p e st m args below meth c ls A X hret hk hw hl
  have X : CX D p m c cX7_arm 5 st args RX7 A := X
  have hx := X.1.1
  have hb := X.1.2.1
  have hown := X.1.2.2.2.1
  have hts := X.1.2.2.2.2
  have hl : lv_has ls 5 [(0, .ref (L 0)), (1, .int (nI a)), (2, .int (nI v))] := hl
  refine lv_iload_n hx hb dX7_arm_0 rfl (lv_at hl 1 rfl) ?_
  refine r_callS X hw (ws' := mW D L (s, pa, nI P, 1, S4)) (As := [.int (nI a)]) (rest := []) lk_X7_137 (c_X7_isAlarm l D _ (nI a)) Foc.nil rfl hl.1 (Nat.le_of_ble_eq_true rfl) ⟨Nat.le_of_ble_eq_true rfl, Nat.le_of_ble_eq_true rfl⟩ rfl dX7_arm_1 ⟨Nat.le_refl _, Nat.le_refl _⟩ (fun H locs hw => ?_)
  refine lv_if_eq (tgt := 17) hx hb dX7_arm_4 (by decide) (fun h => absurd h (isAl_ok (by omega))) (fun _ => ?_)
  refine lv_iload_n hx hb dX7_arm_7 rfl (lv_at hl 2 rfl) ?_
  refine lv_iconst (v := (-1)) hx hb dX7_arm_8 (by decide) ?_
  refine lv_bipush (v := 31) hx hb dX7_arm_9 (by decide) ?_
  refine r_callS X hw (ws' := mW D L (s, pa, nI P, 1, S4)) (As := [.int (nI v), .int (-1), .int 31]) (rest := []) lk_X7_45 (c_X7_in l D _ (nI v) (-1) 31) Foc.nil rfl hl.1 (Nat.le_of_ble_eq_true rfl) ⟨Nat.le_of_ble_eq_true rfl, Nat.le_of_ble_eq_true rfl⟩ rfl dX7_arm_11 ⟨Nat.le_refl _, Nat.le_refl _⟩ (fun H locs hw => ?_)
  refine lv_if_ne (tgt := 20) hx hb dX7_arm_14 (by decide) (fun _ => ?_) (fun h => absurd h (in_okM v 31 (by omega) (by decide)))
  refine lv_aload_n hx hb dX7_arm_20 rfl (lv_at hl 0 rfl) ?_
  refine r_callVv X hw (ws' := mW D L (s, pa, nI P, 1, S4)) (As := []) (rest := []) lk_X7_107 (c_X7_changesR l D _ L s pa P 1 S4 (by omega) (by decide)) Foc.all (m_at 0 rfl) rfl hl.1 (Nat.le_of_ble_eq_true rfl) ⟨Nat.le_of_ble_eq_true rfl, Nat.le_of_ble_eq_true rfl⟩ rfl dX7_arm_21 ⟨Nat.le_refl _, Nat.le_refl _⟩ (fun H locs hw => ?_)
  refine lv_iload_n hx hb dX7_arm_24 rfl (lv_at hl 1 rfl) ?_
  refine r_callS X hw (ws' := mW D L (s, pa, nI P, 1, S4)) (As := [.int (nI a)]) (rest := []) lk_X7_88 (c_X7_alarmAtN l D _ a (by omega)) Foc.nil rfl hl.1 (Nat.le_of_ble_eq_true rfl) ⟨Nat.le_of_ble_eq_true rfl, Nat.le_of_ble_eq_true rfl⟩ rfl dX7_arm_25 ⟨Nat.le_refl _, Nat.le_refl _⟩ (fun H locs hw => ?_)
  refine lv_istore_n (lv' := [(3, .int (nI (40 + 9 * a))), (0, .ref (L 0)), (1, .int (nI a)), (2, .int (nI v))]) hx hb dX7_arm_28 rfl hl (by decide) rfl (fun ls hl => ?_)
  refine lv_aload_n hx hb dX7_arm_29 rfl (lv_at hl 1 rfl) ?_
  refine r_get X hw (v := .ref (L 1)) fl_X7_7 (m_at 0 rfl) rfl dX7_arm_30 ?_
  refine lv_iload_n hx hb dX7_arm_33 rfl (lv_at hl 0 rfl) ?_
  refine lv_bipush (v := 6) hx hb dX7_arm_34 (by decide) ?_
  refine r_addN hx hb (40 + 9 * a) 6 rfl rfl dX7_arm_36 ?_
  refine r_iald X hw (f := s) (40 + 9 * a + 6) (m_at 1 rfl) rfl (by omega) (by decide) dX7_arm_37 ?_
  refine lv_istore (lv' := [(4, .int (s (40 + 9 * a + 6))), (3, .int (nI (40 + 9 * a))), (0, .ref (L 0)), (1, .int (nI a)), (2, .int (nI v))]) hx hb dX7_arm_38 hl (by decide) rfl (fun ls hl => ?_)
  refine lv_aload_n hx hb dX7_arm_40 rfl (lv_at hl 2 rfl) ?_
  refine r_get X hw (v := .ref (L 1)) fl_X7_7 (m_at 0 rfl) rfl dX7_arm_41 ?_
  refine lv_iload_n hx hb dX7_arm_44 rfl (lv_at hl 1 rfl) ?_
  refine lv_bipush (v := 6) hx hb dX7_arm_45 (by decide) ?_
  refine r_addN hx hb (40 + 9 * a) 6 rfl rfl dX7_arm_47 ?_
  refine lv_iload_n hx hb dX7_arm_48 rfl (lv_at hl 4 rfl) ?_
  refine lv_if_ge (tgt := 56) hx hb dX7_arm_49 (by decide) (fun c1 => ?_) (fun c1 => ?_)
  · skip
    refine lv_iconst (v := 1) hx hb dX7_arm_56 (by decide) ?_
    refine r_iast X hw (ws' := mW D L (upd s (40 + 9 * a + 6) 1, pa, nI P, 1, S4)) (40 + 9 * a + 6) rfl (by omega) (by decide) (Foc.cell 1 rfl rfl rfl) dX7_arm_57 (fun H locs hw => ?_)
    refine lv_aload_n hx hb dX7_arm_58 rfl (lv_at hl 2 rfl) ?_
    refine r_get X hw (v := .ref (L 1)) fl_X7_7 (m_at 0 rfl) rfl dX7_arm_59 ?_
    refine lv_iload_n hx hb dX7_arm_62 rfl (lv_at hl 1 rfl) ?_
    refine lv_iconst (v := 5) hx hb dX7_arm_63 (by decide) ?_
    refine r_addN hx hb (40 + 9 * a) 5 rfl rfl dX7_arm_64 ?_
    refine lv_iload_n hx hb dX7_arm_65 rfl (lv_at hl 4 rfl) ?_
    refine lv_if_ge (tgt := 80) hx hb dX7_arm_66 (by decide) (fun c2 => ?_) (fun c2 => ?_)
    · skip
      refine lv_iload_n hx hb dX7_arm_80 rfl (lv_at hl 4 rfl) ?_
      refine r_iast X hw (ws' := mW D L (upd (upd s (40 + 9 * a + 6) 1) (40 + 9 * a + 5) (nI v), pa, nI P, 1, S4)) (40 + 9 * a + 5) rfl (by omega) (by decide) (Foc.cell 1 rfl rfl rfl) dX7_arm_81 (fun H locs hw => ?_)
      refine lv_iload hx hb dX7_arm_82 (lv_at hl 0 rfl) ?_
      exact r_ret X hw hk hret rfl (by unfold sp_X7_arm; rw [if_pos c1]; rw [if_pos c2]) (by unfold sp_X7_arm; rw [if_pos c1]; rw [if_pos c2]) dX7_arm_84
    · skip
      refine lv_aload_n hx hb dX7_arm_69 rfl (lv_at hl 2 rfl) ?_
      refine r_get X hw (v := .ref (L 1)) fl_X7_7 (m_at 0 rfl) rfl dX7_arm_70 ?_
      refine lv_iload_n hx hb dX7_arm_73 rfl (lv_at hl 1 rfl) ?_
      refine lv_iconst (v := 5) hx hb dX7_arm_74 (by decide) ?_
      refine r_addN hx hb (40 + 9 * a) 5 rfl rfl dX7_arm_75 ?_
      refine r_iald X hw (f := upd s (40 + 9 * a + 6) 1) (40 + 9 * a + 5) (m_at 1 rfl) rfl (by omega) (by decide) dX7_arm_76 ?_
      refine lv_goto (tgt := 81) hx hb dX7_arm_77 (by decide) ?_
      refine r_iast X hw (ws' := mW D L (upd (upd s (40 + 9 * a + 6) 1) (40 + 9 * a + 5) ((upd s (40 + 9 * a + 6) 1) (40 + 9 * a + 5)), pa, nI P, 1, S4)) (40 + 9 * a + 5) rfl (by omega) (by decide) (Foc.cell 1 rfl rfl rfl) dX7_arm_81 (fun H locs hw => ?_)
      refine lv_iload hx hb dX7_arm_82 (lv_at hl 0 rfl) ?_
      exact r_ret X hw hk hret rfl (by unfold sp_X7_arm; rw [if_pos c1]; rw [if_neg c2]) (by unfold sp_X7_arm; rw [if_pos c1]; rw [if_neg c2]) dX7_arm_84
  · skip
    refine lv_iconst (v := 0) hx hb dX7_arm_52 (by decide) ?_
    refine lv_goto (tgt := 57) hx hb dX7_arm_53 (by decide) ?_
    refine r_iast X hw (ws' := mW D L (upd s (40 + 9 * a + 6) 0, pa, nI P, 1, S4)) (40 + 9 * a + 6) rfl (by omega) (by decide) (Foc.cell 1 rfl rfl rfl) dX7_arm_57 (fun H locs hw => ?_)
    refine lv_aload_n hx hb dX7_arm_58 rfl (lv_at hl 2 rfl) ?_
    refine r_get X hw (v := .ref (L 1)) fl_X7_7 (m_at 0 rfl) rfl dX7_arm_59 ?_
    refine lv_iload_n hx hb dX7_arm_62 rfl (lv_at hl 1 rfl) ?_
    refine lv_iconst (v := 5) hx hb dX7_arm_63 (by decide) ?_
    refine r_addN hx hb (40 + 9 * a) 5 rfl rfl dX7_arm_64 ?_
    refine lv_iload_n hx hb dX7_arm_65 rfl (lv_at hl 4 rfl) ?_
    refine lv_if_ge (tgt := 80) hx hb dX7_arm_66 (by decide) (fun c3 => ?_) (fun c3 => ?_)
    · skip
      refine lv_iload_n hx hb dX7_arm_80 rfl (lv_at hl 4 rfl) ?_
      refine r_iast X hw (ws' := mW D L (upd (upd s (40 + 9 * a + 6) 0) (40 + 9 * a + 5) (nI v), pa, nI P, 1, S4)) (40 + 9 * a + 5) rfl (by omega) (by decide) (Foc.cell 1 rfl rfl rfl) dX7_arm_81 (fun H locs hw => ?_)
      refine lv_iload hx hb dX7_arm_82 (lv_at hl 0 rfl) ?_
      exact r_ret X hw hk hret rfl (by unfold sp_X7_arm; rw [if_neg c1]; rw [if_pos c3]) (by unfold sp_X7_arm; rw [if_neg c1]; rw [if_pos c3]) dX7_arm_84
    · skip
      refine lv_aload_n hx hb dX7_arm_69 rfl (lv_at hl 2 rfl) ?_
      refine r_get X hw (v := .ref (L 1)) fl_X7_7 (m_at 0 rfl) rfl dX7_arm_70 ?_
      refine lv_iload_n hx hb dX7_arm_73 rfl (lv_at hl 1 rfl) ?_
      refine lv_iconst (v := 5) hx hb dX7_arm_74 (by decide) ?_
      refine r_addN hx hb (40 + 9 * a) 5 rfl rfl dX7_arm_75 ?_
      refine r_iald X hw (f := upd s (40 + 9 * a + 6) 0) (40 + 9 * a + 5) (m_at 1 rfl) rfl (by omega) (by decide) dX7_arm_76 ?_
      refine lv_goto (tgt := 81) hx hb dX7_arm_77 (by decide) ?_
      refine r_iast X hw (ws' := mW D L (upd (upd s (40 + 9 * a + 6) 0) (40 + 9 * a + 5) ((upd s (40 + 9 * a + 6) 0) (40 + 9 * a + 5)), pa, nI P, 1, S4)) (40 + 9 * a + 5) rfl (by omega) (by decide) (Foc.cell 1 rfl rfl rfl) dX7_arm_81 (fun H locs hw => ?_)
      refine lv_iload hx hb dX7_arm_82 (lv_at hl 0 rfl) ?_
      exact r_ret X hw hk hret rfl (by unfold sp_X7_arm; rw [if_neg c1]; rw [if_neg c3]) (by unfold sp_X7_arm; rw [if_neg c1]; rw [if_neg c3]) dX7_arm_84

set_option maxRecDepth 100000 in
set_option maxHeartbeats 4000000 in
theorem c_X7_arm_0 (l : Launch) (D : va_G) (sz : Nat) (L : Nat → Nat) (s pa : Row) (P : Nat) (S4 : MT4) (a : Nat) (v : Nat) (ha : a < 3) (hv : v < 32) (hP : P ≤ 4) : MI l yX7_arm cX7_arm 5 (some .int) 2 42 D sz [.ref (L 0), .int (nI a), .int (nI v)] (mW D L (s, pa, nI P, 0, S4)) ((sp_X7_arm s a v).1) (mW D L ((sp_X7_arm s a v).2, (pushR s pa P).1, nI (pushR s pa P).2, 0, S4)) := by
  refine r_enterI (by decide) (Nat.le_of_ble_eq_true rfl) ?_
  intro p e st m args below meth c ls A X hret hk hw hl
  have X : CX D p m c cX7_arm 5 st args RX7 A := X
  have hx := X.1.1
  have hb := X.1.2.1
  have hown := X.1.2.2.2.1
  have hts := X.1.2.2.2.2
  have hl : lv_has ls 5 [(0, .ref (L 0)), (1, .int (nI a)), (2, .int (nI v))] := hl
  refine lv_iload_n hx hb dX7_arm_0 rfl (lv_at hl 1 rfl) ?_
  refine r_callS X hw (ws' := mW D L (s, pa, nI P, 0, S4)) (As := [.int (nI a)]) (rest := []) lk_X7_137 (c_X7_isAlarm l D _ (nI a)) Foc.nil rfl hl.1 (Nat.le_of_ble_eq_true rfl) ⟨Nat.le_of_ble_eq_true rfl, Nat.le_of_ble_eq_true rfl⟩ rfl dX7_arm_1 ⟨Nat.le_refl _, Nat.le_refl _⟩ (fun H locs hw => ?_)
  refine lv_if_eq (tgt := 17) hx hb dX7_arm_4 (by decide) (fun h => absurd h (isAl_ok (by omega))) (fun _ => ?_)
  refine lv_iload_n hx hb dX7_arm_7 rfl (lv_at hl 2 rfl) ?_
  refine lv_iconst (v := (-1)) hx hb dX7_arm_8 (by decide) ?_
  refine lv_bipush (v := 31) hx hb dX7_arm_9 (by decide) ?_
  refine r_callS X hw (ws' := mW D L (s, pa, nI P, 0, S4)) (As := [.int (nI v), .int (-1), .int 31]) (rest := []) lk_X7_45 (c_X7_in l D _ (nI v) (-1) 31) Foc.nil rfl hl.1 (Nat.le_of_ble_eq_true rfl) ⟨Nat.le_of_ble_eq_true rfl, Nat.le_of_ble_eq_true rfl⟩ rfl dX7_arm_11 ⟨Nat.le_refl _, Nat.le_refl _⟩ (fun H locs hw => ?_)
  refine lv_if_ne (tgt := 20) hx hb dX7_arm_14 (by decide) (fun _ => ?_) (fun h => absurd h (in_okM v 31 (by omega) (by decide)))
  refine lv_aload_n hx hb dX7_arm_20 rfl (lv_at hl 0 rfl) ?_
  refine r_callVv X hw (ws' := mW D L (s, (pushR s pa P).1, nI (pushR s pa P).2, 0, S4)) (As := []) (rest := []) lk_X7_107 (c_X7_changes0 l D _ L s pa P 0 S4 (by omega)) Foc.all (m_at 0 rfl) rfl hl.1 (Nat.le_of_ble_eq_true rfl) ⟨Nat.le_of_ble_eq_true rfl, Nat.le_of_ble_eq_true rfl⟩ rfl dX7_arm_21 ⟨Nat.le_refl _, Nat.le_refl _⟩ (fun H locs hw => ?_)
  refine lv_iload_n hx hb dX7_arm_24 rfl (lv_at hl 1 rfl) ?_
  refine r_callS X hw (ws' := mW D L (s, (pushR s pa P).1, nI (pushR s pa P).2, 0, S4)) (As := [.int (nI a)]) (rest := []) lk_X7_88 (c_X7_alarmAtN l D _ a (by omega)) Foc.nil rfl hl.1 (Nat.le_of_ble_eq_true rfl) ⟨Nat.le_of_ble_eq_true rfl, Nat.le_of_ble_eq_true rfl⟩ rfl dX7_arm_25 ⟨Nat.le_refl _, Nat.le_refl _⟩ (fun H locs hw => ?_)
  refine lv_istore_n (lv' := [(3, .int (nI (40 + 9 * a))), (0, .ref (L 0)), (1, .int (nI a)), (2, .int (nI v))]) hx hb dX7_arm_28 rfl hl (by decide) rfl (fun ls hl => ?_)
  refine lv_aload_n hx hb dX7_arm_29 rfl (lv_at hl 1 rfl) ?_
  refine r_get X hw (v := .ref (L 1)) fl_X7_7 (m_at 0 rfl) rfl dX7_arm_30 ?_
  refine lv_iload_n hx hb dX7_arm_33 rfl (lv_at hl 0 rfl) ?_
  refine lv_bipush (v := 6) hx hb dX7_arm_34 (by decide) ?_
  refine r_addN hx hb (40 + 9 * a) 6 rfl rfl dX7_arm_36 ?_
  refine r_iald X hw (f := s) (40 + 9 * a + 6) (m_at 1 rfl) rfl (by omega) (by decide) dX7_arm_37 ?_
  refine lv_istore (lv' := [(4, .int (s (40 + 9 * a + 6))), (3, .int (nI (40 + 9 * a))), (0, .ref (L 0)), (1, .int (nI a)), (2, .int (nI v))]) hx hb dX7_arm_38 hl (by decide) rfl (fun ls hl => ?_)
  refine lv_aload_n hx hb dX7_arm_40 rfl (lv_at hl 2 rfl) ?_
  refine r_get X hw (v := .ref (L 1)) fl_X7_7 (m_at 0 rfl) rfl dX7_arm_41 ?_
  refine lv_iload_n hx hb dX7_arm_44 rfl (lv_at hl 1 rfl) ?_
  refine lv_bipush (v := 6) hx hb dX7_arm_45 (by decide) ?_
  refine r_addN hx hb (40 + 9 * a) 6 rfl rfl dX7_arm_47 ?_
  refine lv_iload_n hx hb dX7_arm_48 rfl (lv_at hl 4 rfl) ?_
  refine lv_if_ge (tgt := 56) hx hb dX7_arm_49 (by decide) (fun c1 => ?_) (fun c1 => ?_)
  · skip
    refine lv_iconst (v := 1) hx hb dX7_arm_56 (by decide) ?_
    refine r_iast X hw (ws' := mW D L (upd s (40 + 9 * a + 6) 1, (pushR s pa P).1, nI (pushR s pa P).2, 0, S4)) (40 + 9 * a + 6) rfl (by omega) (by decide) (Foc.cell 1 rfl rfl rfl) dX7_arm_57 (fun H locs hw => ?_)
    refine lv_aload_n hx hb dX7_arm_58 rfl (lv_at hl 2 rfl) ?_
    refine r_get X hw (v := .ref (L 1)) fl_X7_7 (m_at 0 rfl) rfl dX7_arm_59 ?_
    refine lv_iload_n hx hb dX7_arm_62 rfl (lv_at hl 1 rfl) ?_
    refine lv_iconst (v := 5) hx hb dX7_arm_63 (by decide) ?_
    refine r_addN hx hb (40 + 9 * a) 5 rfl rfl dX7_arm_64 ?_
    refine lv_iload_n hx hb dX7_arm_65 rfl (lv_at hl 4 rfl) ?_
    refine lv_if_ge (tgt := 80) hx hb dX7_arm_66 (by decide) (fun c2 => ?_) (fun c2 => ?_)
    · skip
      refine lv_iload_n hx hb dX7_arm_80 rfl (lv_at hl 4 rfl) ?_
      refine r_iast X hw (ws' := mW D L (upd (upd s (40 + 9 * a + 6) 1) (40 + 9 * a + 5) (nI v), (pushR s pa P).1, nI (pushR s pa P).2, 0, S4)) (40 + 9 * a + 5) rfl (by omega) (by decide) (Foc.cell 1 rfl rfl rfl) dX7_arm_81 (fun H locs hw => ?_)
      refine lv_iload hx hb dX7_arm_82 (lv_at hl 0 rfl) ?_
      exact r_ret X hw hk hret rfl (by unfold sp_X7_arm; rw [if_pos c1]; rw [if_pos c2]) (by unfold sp_X7_arm; rw [if_pos c1]; rw [if_pos c2]) dX7_arm_84
    · skip
      refine lv_aload_n hx hb dX7_arm_69 rfl (lv_at hl 2 rfl) ?_
      refine r_get X hw (v := .ref (L 1)) fl_X7_7 (m_at 0 rfl) rfl dX7_arm_70 ?_
      refine lv_iload_n hx hb dX7_arm_73 rfl (lv_at hl 1 rfl) ?_
      refine lv_iconst (v := 5) hx hb dX7_arm_74 (by decide) ?_
      refine r_addN hx hb (40 + 9 * a) 5 rfl rfl dX7_arm_75 ?_
      refine r_iald X hw (f := upd s (40 + 9 * a + 6) 1) (40 + 9 * a + 5) (m_at 1 rfl) rfl (by omega) (by decide) dX7_arm_76 ?_
      refine lv_goto (tgt := 81) hx hb dX7_arm_77 (by decide) ?_
      refine r_iast X hw (ws' := mW D L (upd (upd s (40 + 9 * a + 6) 1) (40 + 9 * a + 5) ((upd s (40 + 9 * a + 6) 1) (40 + 9 * a + 5)), (pushR s pa P).1, nI (pushR s pa P).2, 0, S4)) (40 + 9 * a + 5) rfl (by omega) (by decide) (Foc.cell 1 rfl rfl rfl) dX7_arm_81 (fun H locs hw => ?_)
      refine lv_iload hx hb dX7_arm_82 (lv_at hl 0 rfl) ?_
      exact r_ret X hw hk hret rfl (by unfold sp_X7_arm; rw [if_pos c1]; rw [if_neg c2]) (by unfold sp_X7_arm; rw [if_pos c1]; rw [if_neg c2]) dX7_arm_84
  · skip
    refine lv_iconst (v := 0) hx hb dX7_arm_52 (by decide) ?_
    refine lv_goto (tgt := 57) hx hb dX7_arm_53 (by decide) ?_
    refine r_iast X hw (ws' := mW D L (upd s (40 + 9 * a + 6) 0, (pushR s pa P).1, nI (pushR s pa P).2, 0, S4)) (40 + 9 * a + 6) rfl (by omega) (by decide) (Foc.cell 1 rfl rfl rfl) dX7_arm_57 (fun H locs hw => ?_)
    refine lv_aload_n hx hb dX7_arm_58 rfl (lv_at hl 2 rfl) ?_
    refine r_get X hw (v := .ref (L 1)) fl_X7_7 (m_at 0 rfl) rfl dX7_arm_59 ?_
    refine lv_iload_n hx hb dX7_arm_62 rfl (lv_at hl 1 rfl) ?_
    refine lv_iconst (v := 5) hx hb dX7_arm_63 (by decide) ?_
    refine r_addN hx hb (40 + 9 * a) 5 rfl rfl dX7_arm_64 ?_
    refine lv_iload_n hx hb dX7_arm_65 rfl (lv_at hl 4 rfl) ?_
    refine lv_if_ge (tgt := 80) hx hb dX7_arm_66 (by decide) (fun c3 => ?_) (fun c3 => ?_)
    · skip
      refine lv_iload_n hx hb dX7_arm_80 rfl (lv_at hl 4 rfl) ?_
      refine r_iast X hw (ws' := mW D L (upd (upd s (40 + 9 * a + 6) 0) (40 + 9 * a + 5) (nI v), (pushR s pa P).1, nI (pushR s pa P).2, 0, S4)) (40 + 9 * a + 5) rfl (by omega) (by decide) (Foc.cell 1 rfl rfl rfl) dX7_arm_81 (fun H locs hw => ?_)
      refine lv_iload hx hb dX7_arm_82 (lv_at hl 0 rfl) ?_
      exact r_ret X hw hk hret rfl (by unfold sp_X7_arm; rw [if_neg c1]; rw [if_pos c3]) (by unfold sp_X7_arm; rw [if_neg c1]; rw [if_pos c3]) dX7_arm_84
    · skip
      refine lv_aload_n hx hb dX7_arm_69 rfl (lv_at hl 2 rfl) ?_
      refine r_get X hw (v := .ref (L 1)) fl_X7_7 (m_at 0 rfl) rfl dX7_arm_70 ?_
      refine lv_iload_n hx hb dX7_arm_73 rfl (lv_at hl 1 rfl) ?_
      refine lv_iconst (v := 5) hx hb dX7_arm_74 (by decide) ?_
      refine r_addN hx hb (40 + 9 * a) 5 rfl rfl dX7_arm_75 ?_
      refine r_iald X hw (f := upd s (40 + 9 * a + 6) 0) (40 + 9 * a + 5) (m_at 1 rfl) rfl (by omega) (by decide) dX7_arm_76 ?_
      refine lv_goto (tgt := 81) hx hb dX7_arm_77 (by decide) ?_
      refine r_iast X hw (ws' := mW D L (upd (upd s (40 + 9 * a + 6) 0) (40 + 9 * a + 5) ((upd s (40 + 9 * a + 6) 0) (40 + 9 * a + 5)), (pushR s pa P).1, nI (pushR s pa P).2, 0, S4)) (40 + 9 * a + 5) rfl (by omega) (by decide) (Foc.cell 1 rfl rfl rfl) dX7_arm_81 (fun H locs hw => ?_)
      refine lv_iload hx hb dX7_arm_82 (lv_at hl 0 rfl) ?_
      exact r_ret X hw hk hret rfl (by unfold sp_X7_arm; rw [if_neg c1]; rw [if_neg c3]) (by unfold sp_X7_arm; rw [if_neg c1]; rw [if_neg c3]) dX7_arm_84

noncomputable def sp_X7_armM (s : Row) (a : Nat) : Int32 × Row := (s (40 + 9 * a + 6), upd (upd s (40 + 9 * a + 6) 0) (40 + 9 * a + 5) ((upd s (40 + 9 * a + 6) 0) (40 + 9 * a + 5)))
set_option maxRecDepth 100000 in
set_option maxHeartbeats 4000000 in
theorem c_X7_armM_1 (l : Launch) (D : va_G) (sz : Nat) (L : Nat → Nat) (s pa : Row) (P : Nat) (S4 : MT4) (a : Nat) (ha : a < 3) (hP : P ≤ 4) : MI l yX7_arm cX7_arm 5 (some .int) 2 42 D sz [.ref (L 0), .int (nI a), .int (-1)] (mW D L (s, pa, nI P, 1, S4)) ((sp_X7_armM s a).1) (mW D L ((sp_X7_armM s a).2, pa, nI P, 1, S4)) := by
  refine r_enterI (by decide) (Nat.le_of_ble_eq_true rfl) ?_
  intro p e st m args below meth c ls A X hret hk hw hl
  have X : CX D p m c cX7_arm 5 st args RX7 A := X
  have hx := X.1.1
  have hb := X.1.2.1
  have hown := X.1.2.2.2.1
  have hts := X.1.2.2.2.2
  have hl : lv_has ls 5 [(0, .ref (L 0)), (1, .int (nI a)), (2, .int (-1))] := hl
  refine lv_iload_n hx hb dX7_arm_0 rfl (lv_at hl 1 rfl) ?_
  refine r_callS X hw (ws' := mW D L (s, pa, nI P, 1, S4)) (As := [.int (nI a)]) (rest := []) lk_X7_137 (c_X7_isAlarm l D _ (nI a)) Foc.nil rfl hl.1 (Nat.le_of_ble_eq_true rfl) ⟨Nat.le_of_ble_eq_true rfl, Nat.le_of_ble_eq_true rfl⟩ rfl dX7_arm_1 ⟨Nat.le_refl _, Nat.le_refl _⟩ (fun H locs hw => ?_)
  refine lv_if_eq (tgt := 17) hx hb dX7_arm_4 (by decide) (fun h => absurd h (isAl_ok (by omega))) (fun _ => ?_)
  refine lv_iload_n hx hb dX7_arm_7 rfl (lv_at hl 2 rfl) ?_
  refine lv_iconst (v := (-1)) hx hb dX7_arm_8 (by decide) ?_
  refine lv_bipush (v := 31) hx hb dX7_arm_9 (by decide) ?_
  refine r_callS X hw (ws' := mW D L (s, pa, nI P, 1, S4)) (As := [.int (-1), .int (-1), .int 31]) (rest := []) lk_X7_45 (c_X7_in l D _ (-1) (-1) 31) Foc.nil rfl hl.1 (Nat.le_of_ble_eq_true rfl) ⟨Nat.le_of_ble_eq_true rfl, Nat.le_of_ble_eq_true rfl⟩ rfl dX7_arm_11 ⟨Nat.le_refl _, Nat.le_refl _⟩ (fun H locs hw => ?_)
  refine lv_if_ne (tgt := 20) hx hb dX7_arm_14 (by decide) (fun _ => ?_) (fun h => absurd h (by decide))
  refine lv_aload_n hx hb dX7_arm_20 rfl (lv_at hl 0 rfl) ?_
  refine r_callVv X hw (ws' := mW D L (s, pa, nI P, 1, S4)) (As := []) (rest := []) lk_X7_107 (c_X7_changesR l D _ L s pa P 1 S4 (by omega) (by decide)) Foc.all (m_at 0 rfl) rfl hl.1 (Nat.le_of_ble_eq_true rfl) ⟨Nat.le_of_ble_eq_true rfl, Nat.le_of_ble_eq_true rfl⟩ rfl dX7_arm_21 ⟨Nat.le_refl _, Nat.le_refl _⟩ (fun H locs hw => ?_)
  refine lv_iload_n hx hb dX7_arm_24 rfl (lv_at hl 1 rfl) ?_
  refine r_callS X hw (ws' := mW D L (s, pa, nI P, 1, S4)) (As := [.int (nI a)]) (rest := []) lk_X7_88 (c_X7_alarmAtN l D _ a (by omega)) Foc.nil rfl hl.1 (Nat.le_of_ble_eq_true rfl) ⟨Nat.le_of_ble_eq_true rfl, Nat.le_of_ble_eq_true rfl⟩ rfl dX7_arm_25 ⟨Nat.le_refl _, Nat.le_refl _⟩ (fun H locs hw => ?_)
  refine lv_istore_n (lv' := [(3, .int (nI (40 + 9 * a))), (0, .ref (L 0)), (1, .int (nI a)), (2, .int (-1))]) hx hb dX7_arm_28 rfl hl (by decide) rfl (fun ls hl => ?_)
  refine lv_aload_n hx hb dX7_arm_29 rfl (lv_at hl 1 rfl) ?_
  refine r_get X hw (v := .ref (L 1)) fl_X7_7 (m_at 0 rfl) rfl dX7_arm_30 ?_
  refine lv_iload_n hx hb dX7_arm_33 rfl (lv_at hl 0 rfl) ?_
  refine lv_bipush (v := 6) hx hb dX7_arm_34 (by decide) ?_
  refine r_addN hx hb (40 + 9 * a) 6 rfl rfl dX7_arm_36 ?_
  refine r_iald X hw (f := s) (40 + 9 * a + 6) (m_at 1 rfl) rfl (by omega) (by decide) dX7_arm_37 ?_
  refine lv_istore (lv' := [(4, .int (s (40 + 9 * a + 6))), (3, .int (nI (40 + 9 * a))), (0, .ref (L 0)), (1, .int (nI a)), (2, .int (-1))]) hx hb dX7_arm_38 hl (by decide) rfl (fun ls hl => ?_)
  refine lv_aload_n hx hb dX7_arm_40 rfl (lv_at hl 2 rfl) ?_
  refine r_get X hw (v := .ref (L 1)) fl_X7_7 (m_at 0 rfl) rfl dX7_arm_41 ?_
  refine lv_iload_n hx hb dX7_arm_44 rfl (lv_at hl 1 rfl) ?_
  refine lv_bipush (v := 6) hx hb dX7_arm_45 (by decide) ?_
  refine r_addN hx hb (40 + 9 * a) 6 rfl rfl dX7_arm_47 ?_
  refine lv_iload_n hx hb dX7_arm_48 rfl (lv_at hl 4 rfl) ?_
  refine lv_if_ge (tgt := 56) hx hb dX7_arm_49 (by decide) (fun h => absurd h (by decide)) (fun _ => ?_)
  refine lv_iconst (v := 0) hx hb dX7_arm_52 (by decide) ?_
  refine lv_goto (tgt := 57) hx hb dX7_arm_53 (by decide) ?_
  refine r_iast X hw (ws' := mW D L (upd s (40 + 9 * a + 6) 0, pa, nI P, 1, S4)) (40 + 9 * a + 6) rfl (by omega) (by decide) (Foc.cell 1 rfl rfl rfl) dX7_arm_57 (fun H locs hw => ?_)
  refine lv_aload_n hx hb dX7_arm_58 rfl (lv_at hl 2 rfl) ?_
  refine r_get X hw (v := .ref (L 1)) fl_X7_7 (m_at 0 rfl) rfl dX7_arm_59 ?_
  refine lv_iload_n hx hb dX7_arm_62 rfl (lv_at hl 1 rfl) ?_
  refine lv_iconst (v := 5) hx hb dX7_arm_63 (by decide) ?_
  refine r_addN hx hb (40 + 9 * a) 5 rfl rfl dX7_arm_64 ?_
  refine lv_iload_n hx hb dX7_arm_65 rfl (lv_at hl 4 rfl) ?_
  refine lv_if_ge (tgt := 80) hx hb dX7_arm_66 (by decide) (fun h => absurd h (by decide)) (fun _ => ?_)
  refine lv_aload_n hx hb dX7_arm_69 rfl (lv_at hl 2 rfl) ?_
  refine r_get X hw (v := .ref (L 1)) fl_X7_7 (m_at 0 rfl) rfl dX7_arm_70 ?_
  refine lv_iload_n hx hb dX7_arm_73 rfl (lv_at hl 1 rfl) ?_
  refine lv_iconst (v := 5) hx hb dX7_arm_74 (by decide) ?_
  refine r_addN hx hb (40 + 9 * a) 5 rfl rfl dX7_arm_75 ?_
  refine r_iald X hw (f := upd s (40 + 9 * a + 6) 0) (40 + 9 * a + 5) (m_at 1 rfl) rfl (by omega) (by decide) dX7_arm_76 ?_
  refine lv_goto (tgt := 81) hx hb dX7_arm_77 (by decide) ?_
  refine r_iast X hw (ws' := mW D L (upd (upd s (40 + 9 * a + 6) 0) (40 + 9 * a + 5) ((upd s (40 + 9 * a + 6) 0) (40 + 9 * a + 5)), pa, nI P, 1, S4)) (40 + 9 * a + 5) rfl (by omega) (by decide) (Foc.cell 1 rfl rfl rfl) dX7_arm_81 (fun H locs hw => ?_)
  refine lv_iload hx hb dX7_arm_82 (lv_at hl 0 rfl) ?_
  exact r_ret X hw hk hret rfl (rfl) (rfl) dX7_arm_84

set_option maxRecDepth 100000 in
set_option maxHeartbeats 4000000 in
theorem c_X7_armM_0 (l : Launch) (D : va_G) (sz : Nat) (L : Nat → Nat) (s pa : Row) (P : Nat) (S4 : MT4) (a : Nat) (ha : a < 3) (hP : P ≤ 4) : MI l yX7_arm cX7_arm 5 (some .int) 2 42 D sz [.ref (L 0), .int (nI a), .int (-1)] (mW D L (s, pa, nI P, 0, S4)) ((sp_X7_armM s a).1) (mW D L ((sp_X7_armM s a).2, (pushR s pa P).1, nI (pushR s pa P).2, 0, S4)) := by
  refine r_enterI (by decide) (Nat.le_of_ble_eq_true rfl) ?_
  intro p e st m args below meth c ls A X hret hk hw hl
  have X : CX D p m c cX7_arm 5 st args RX7 A := X
  have hx := X.1.1
  have hb := X.1.2.1
  have hown := X.1.2.2.2.1
  have hts := X.1.2.2.2.2
  have hl : lv_has ls 5 [(0, .ref (L 0)), (1, .int (nI a)), (2, .int (-1))] := hl
  refine lv_iload_n hx hb dX7_arm_0 rfl (lv_at hl 1 rfl) ?_
  refine r_callS X hw (ws' := mW D L (s, pa, nI P, 0, S4)) (As := [.int (nI a)]) (rest := []) lk_X7_137 (c_X7_isAlarm l D _ (nI a)) Foc.nil rfl hl.1 (Nat.le_of_ble_eq_true rfl) ⟨Nat.le_of_ble_eq_true rfl, Nat.le_of_ble_eq_true rfl⟩ rfl dX7_arm_1 ⟨Nat.le_refl _, Nat.le_refl _⟩ (fun H locs hw => ?_)
  refine lv_if_eq (tgt := 17) hx hb dX7_arm_4 (by decide) (fun h => absurd h (isAl_ok (by omega))) (fun _ => ?_)
  refine lv_iload_n hx hb dX7_arm_7 rfl (lv_at hl 2 rfl) ?_
  refine lv_iconst (v := (-1)) hx hb dX7_arm_8 (by decide) ?_
  refine lv_bipush (v := 31) hx hb dX7_arm_9 (by decide) ?_
  refine r_callS X hw (ws' := mW D L (s, pa, nI P, 0, S4)) (As := [.int (-1), .int (-1), .int 31]) (rest := []) lk_X7_45 (c_X7_in l D _ (-1) (-1) 31) Foc.nil rfl hl.1 (Nat.le_of_ble_eq_true rfl) ⟨Nat.le_of_ble_eq_true rfl, Nat.le_of_ble_eq_true rfl⟩ rfl dX7_arm_11 ⟨Nat.le_refl _, Nat.le_refl _⟩ (fun H locs hw => ?_)
  refine lv_if_ne (tgt := 20) hx hb dX7_arm_14 (by decide) (fun _ => ?_) (fun h => absurd h (by decide))
  refine lv_aload_n hx hb dX7_arm_20 rfl (lv_at hl 0 rfl) ?_
  refine r_callVv X hw (ws' := mW D L (s, (pushR s pa P).1, nI (pushR s pa P).2, 0, S4)) (As := []) (rest := []) lk_X7_107 (c_X7_changes0 l D _ L s pa P 0 S4 (by omega)) Foc.all (m_at 0 rfl) rfl hl.1 (Nat.le_of_ble_eq_true rfl) ⟨Nat.le_of_ble_eq_true rfl, Nat.le_of_ble_eq_true rfl⟩ rfl dX7_arm_21 ⟨Nat.le_refl _, Nat.le_refl _⟩ (fun H locs hw => ?_)
  refine lv_iload_n hx hb dX7_arm_24 rfl (lv_at hl 1 rfl) ?_
  refine r_callS X hw (ws' := mW D L (s, (pushR s pa P).1, nI (pushR s pa P).2, 0, S4)) (As := [.int (nI a)]) (rest := []) lk_X7_88 (c_X7_alarmAtN l D _ a (by omega)) Foc.nil rfl hl.1 (Nat.le_of_ble_eq_true rfl) ⟨Nat.le_of_ble_eq_true rfl, Nat.le_of_ble_eq_true rfl⟩ rfl dX7_arm_25 ⟨Nat.le_refl _, Nat.le_refl _⟩ (fun H locs hw => ?_)
  refine lv_istore_n (lv' := [(3, .int (nI (40 + 9 * a))), (0, .ref (L 0)), (1, .int (nI a)), (2, .int (-1))]) hx hb dX7_arm_28 rfl hl (by decide) rfl (fun ls hl => ?_)
  refine lv_aload_n hx hb dX7_arm_29 rfl (lv_at hl 1 rfl) ?_
  refine r_get X hw (v := .ref (L 1)) fl_X7_7 (m_at 0 rfl) rfl dX7_arm_30 ?_
  refine lv_iload_n hx hb dX7_arm_33 rfl (lv_at hl 0 rfl) ?_
  refine lv_bipush (v := 6) hx hb dX7_arm_34 (by decide) ?_
  refine r_addN hx hb (40 + 9 * a) 6 rfl rfl dX7_arm_36 ?_
  refine r_iald X hw (f := s) (40 + 9 * a + 6) (m_at 1 rfl) rfl (by omega) (by decide) dX7_arm_37 ?_
  refine lv_istore (lv' := [(4, .int (s (40 + 9 * a + 6))), (3, .int (nI (40 + 9 * a))), (0, .ref (L 0)), (1, .int (nI a)), (2, .int (-1))]) hx hb dX7_arm_38 hl (by decide) rfl (fun ls hl => ?_)
  refine lv_aload_n hx hb dX7_arm_40 rfl (lv_at hl 2 rfl) ?_
  refine r_get X hw (v := .ref (L 1)) fl_X7_7 (m_at 0 rfl) rfl dX7_arm_41 ?_
  refine lv_iload_n hx hb dX7_arm_44 rfl (lv_at hl 1 rfl) ?_
  refine lv_bipush (v := 6) hx hb dX7_arm_45 (by decide) ?_
  refine r_addN hx hb (40 + 9 * a) 6 rfl rfl dX7_arm_47 ?_
  refine lv_iload_n hx hb dX7_arm_48 rfl (lv_at hl 4 rfl) ?_
  refine lv_if_ge (tgt := 56) hx hb dX7_arm_49 (by decide) (fun h => absurd h (by decide)) (fun _ => ?_)
  refine lv_iconst (v := 0) hx hb dX7_arm_52 (by decide) ?_
  refine lv_goto (tgt := 57) hx hb dX7_arm_53 (by decide) ?_
  refine r_iast X hw (ws' := mW D L (upd s (40 + 9 * a + 6) 0, (pushR s pa P).1, nI (pushR s pa P).2, 0, S4)) (40 + 9 * a + 6) rfl (by omega) (by decide) (Foc.cell 1 rfl rfl rfl) dX7_arm_57 (fun H locs hw => ?_)
  refine lv_aload_n hx hb dX7_arm_58 rfl (lv_at hl 2 rfl) ?_
  refine r_get X hw (v := .ref (L 1)) fl_X7_7 (m_at 0 rfl) rfl dX7_arm_59 ?_
  refine lv_iload_n hx hb dX7_arm_62 rfl (lv_at hl 1 rfl) ?_
  refine lv_iconst (v := 5) hx hb dX7_arm_63 (by decide) ?_
  refine r_addN hx hb (40 + 9 * a) 5 rfl rfl dX7_arm_64 ?_
  refine lv_iload_n hx hb dX7_arm_65 rfl (lv_at hl 4 rfl) ?_
  refine lv_if_ge (tgt := 80) hx hb dX7_arm_66 (by decide) (fun h => absurd h (by decide)) (fun _ => ?_)
  refine lv_aload_n hx hb dX7_arm_69 rfl (lv_at hl 2 rfl) ?_
  refine r_get X hw (v := .ref (L 1)) fl_X7_7 (m_at 0 rfl) rfl dX7_arm_70 ?_
  refine lv_iload_n hx hb dX7_arm_73 rfl (lv_at hl 1 rfl) ?_
  refine lv_iconst (v := 5) hx hb dX7_arm_74 (by decide) ?_
  refine r_addN hx hb (40 + 9 * a) 5 rfl rfl dX7_arm_75 ?_
  refine r_iald X hw (f := upd s (40 + 9 * a + 6) 0) (40 + 9 * a + 5) (m_at 1 rfl) rfl (by omega) (by decide) dX7_arm_76 ?_
  refine lv_goto (tgt := 81) hx hb dX7_arm_77 (by decide) ?_
  refine r_iast X hw (ws' := mW D L (upd (upd s (40 + 9 * a + 6) 0) (40 + 9 * a + 5) ((upd s (40 + 9 * a + 6) 0) (40 + 9 * a + 5)), (pushR s pa P).1, nI (pushR s pa P).2, 0, S4)) (40 + 9 * a + 5) rfl (by omega) (by decide) (Foc.cell 1 rfl rfl rfl) dX7_arm_81 (fun H locs hw => ?_)
  refine lv_iload hx hb dX7_arm_82 (lv_at hl 0 rfl) ?_
  exact r_ret X hw hk hret rfl (rfl) (rfl) dX7_arm_84

set_option maxRecDepth 100000 in
set_option maxHeartbeats 4000000 in
theorem c_X7_arm_bad (l : Launch) (D : va_G) (sz : Nat) (L : Nat → Nat) (S : MSt) (a1 a2 : Int32) (hbad : ¬ ((¬ sp_X7_isAlarm a1 = 0) ∧ ¬ sp_X7_in a2 (-1) 31 = 0)) : MI l yX7_arm cX7_arm 5 (some .int) 2 42 D sz [.ref (L 0), .int a1, .int a2] (mW D L S) (-1000001) (mW D L S) := by
  refine r_enterI (by decide) (Nat.le_of_ble_eq_true rfl) ?_
  intro p e st m args below meth c ls A X hret hk hw hl
  have X : CX D p m c cX7_arm 5 st args RX7 A := X
  have hx := X.1.1
  have hb := X.1.2.1
  have hown := X.1.2.2.2.1
  have hts := X.1.2.2.2.2
  have hl : lv_has ls 5 [(0, .ref (L 0)), (1, .int a1), (2, .int a2)] := hl
  refine lv_iload_n hx hb dX7_arm_0 rfl (lv_at hl 1 rfl) ?_
  refine r_callS X hw (ws' := mW D L S) (As := [.int a1]) (rest := []) lk_X7_137 (c_X7_isAlarm l D _ a1) Foc.nil rfl hl.1 (Nat.le_of_ble_eq_true rfl) ⟨Nat.le_of_ble_eq_true rfl, Nat.le_of_ble_eq_true rfl⟩ rfl dX7_arm_1 ⟨Nat.le_refl _, Nat.le_refl _⟩ (fun H locs hw => ?_)
  refine lv_if_eq (tgt := 17) hx hb dX7_arm_4 (by decide) (fun c1 => ?_) (fun c1 => ?_)
  · skip
    refine lv_ldc (v := (-1000001)) hx hb hown (hts _ kc_X7_106) dX7_arm_17 ?_
    exact r_ret X hw hk hret rfl rfl rfl dX7_arm_19
  · skip
    refine lv_iload_n hx hb dX7_arm_7 rfl (lv_at hl 2 rfl) ?_
    refine lv_iconst (v := (-1)) hx hb dX7_arm_8 (by decide) ?_
    refine lv_bipush (v := 31) hx hb dX7_arm_9 (by decide) ?_
    refine r_callS X hw (ws' := mW D L S) (As := [.int a2, .int (-1), .int 31]) (rest := []) lk_X7_45 (c_X7_in l D _ a2 (-1) 31) Foc.nil rfl hl.1 (Nat.le_of_ble_eq_true rfl) ⟨Nat.le_of_ble_eq_true rfl, Nat.le_of_ble_eq_true rfl⟩ rfl dX7_arm_11 ⟨Nat.le_refl _, Nat.le_refl _⟩ (fun H locs hw => ?_)
    refine lv_if_ne (tgt := 20) hx hb dX7_arm_14 (by decide) (fun c2 => ?_) (fun c2 => ?_)
    · skip
      exact absurd ⟨c1, c2⟩ hbad
    · skip
      refine lv_ldc (v := (-1000001)) hx hb hown (hts _ kc_X7_106) dX7_arm_17 ?_
      exact r_ret X hw hk hret rfl rfl rfl dX7_arm_19

/-- the flags as a set, alarm by alarm -/
noncomputable def flN (s : Row) : Nat → Int32
  | 0 => 0
  | i + 1 => flN s i ||| s (40 + 9 * i + 7) <<< (nI i &&& 31)
noncomputable def sp_X7_flags (s : Row) : Int32 := flN s 3
/-- flags taken away -/
noncomputable def clN (s : Row) : Nat → Row
  | 0 => s
  | i + 1 => upd (clN s i) (40 + 9 * i + 7) 0

set_option maxRecDepth 100000 in
set_option maxHeartbeats 4000000 in
theorem c_X7_flags (l : Launch) (D : va_G) (sz : Nat) (L : Nat → Nat) (s : Row) (S2 : MT) : MI l yX7_flags cX7_flags 3 (some .int) 1 20 D sz [.ref (L 0)] (mW D L (s, S2)) (sp_X7_flags s) (mW D L (s, S2)) := by
  refine r_enterI (by decide) (Nat.le_of_ble_eq_true rfl) ?_
  intro p e st m args below meth c ls A X hret hk hw hl
  have X : CX D p m c cX7_flags 3 st args RX7 A := X
  have hx := X.1.1
  have hb := X.1.2.1
  have hown := X.1.2.2.2.1
  have hts := X.1.2.2.2.2
  have hl : lv_has ls 3 [(0, .ref (L 0))] := hl
  refine lv_iconst (v := 0) hx hb dX7_flags_0 (by decide) ?_
  refine lv_istore_n (lv' := [(1, .int 0), (0, .ref (L 0))]) hx hb dX7_flags_1 rfl hl (by decide) rfl (fun ls hl => ?_)
  refine lv_iconst (v := 0) hx hb dX7_flags_2 (by decide) ?_
  refine lv_istore_n (lv' := [(2, .int 0), (1, .int 0), (0, .ref (L 0))]) hx hb dX7_flags_3 rfl hl (by decide) rfl (fun ls hl => ?_)
  have key4 : ∀ (n4 : Nat) (i : Nat) (x : Int32), (i ≤ 3) → (3 - i < n4) → (x = flN s i) → ∀ (H : Heap) (locs : List Loc) (ls : Array Slot), Wd D A st.heap H locs (mW D L (s, S2)) → lv_has ls 3 [(0, .ref (L 0)), (1, .int x), (2, .int (nI i))] → W p l e (rmOf 1 0 0 20) st m args below meth c H locs 0 0 (QI below args st D A (sp_X7_flags s) (mW D L (s, S2))) (F0 m 4 ls []) := by
    intro n4
    induction n4 with
    | zero => intro i x hi hm hx0; omega
    | succ n4 ih4 =>
      intro i x hi hm hx0 H locs ls hw hl
      refine lv_iload_n hx hb dX7_flags_4 rfl (lv_at hl 2 rfl) ?_
      refine lv_iconst (v := 3) hx hb dX7_flags_5 (by decide) ?_
      refine r_geN (tgt := 32) hx hb i 3 rfl rfl (by omega) (by omega) dX7_flags_6 (by decide) (fun c1 => ?_) (fun c1 => ?_)
      · skip
        refine lv_iload_n hx hb dX7_flags_32 rfl (lv_at hl 1 rfl) ?_
        exact r_ret X hw hk hret rfl (by rw [hx0, show i = 3 from by omega]; rfl) rfl dX7_flags_33
      · skip
        refine lv_iload_n hx hb dX7_flags_9 rfl (lv_at hl 1 rfl) ?_
        refine lv_aload_n hx hb dX7_flags_10 rfl (lv_at hl 0 rfl) ?_
        refine r_get X hw (v := .ref (L 1)) fl_X7_7 (m_at 0 rfl) rfl dX7_flags_11 ?_
        refine lv_iload_n hx hb dX7_flags_14 rfl (lv_at hl 2 rfl) ?_
        refine r_callS X hw (ws' := mW D L (s, S2)) (As := [.int (nI i)]) (rest := [.ref (L 1), .int x]) lk_X7_88 (c_X7_alarmAtN l D _ i (by omega)) Foc.nil rfl hl.1 (Nat.le_of_ble_eq_true rfl) ⟨Nat.le_of_ble_eq_true rfl, Nat.le_of_ble_eq_true rfl⟩ rfl dX7_flags_15 ⟨Nat.le_refl _, Nat.le_refl _⟩ (fun H locs hw => ?_)
        refine lv_bipush (v := 7) hx hb dX7_flags_18 (by decide) ?_
        refine r_addN hx hb (40 + 9 * i) 7 rfl rfl dX7_flags_20 ?_
        refine r_iald X hw (f := s) (40 + 9 * i + 7) (m_at 1 rfl) rfl (by omega) (by decide) dX7_flags_21 ?_
        refine lv_iload_n hx hb dX7_flags_22 rfl (lv_at hl 2 rfl) ?_
        refine lv_ishl hx hb dX7_flags_23 ?_
        refine lv_ior hx hb dX7_flags_24 ?_
        refine lv_istore_n (lv' := [(1, .int (x ||| ((s (40 + 9 * i + 7)) <<< ((nI i) &&& 31)))), (0, .ref (L 0)), (2, .int (nI i))]) hx hb dX7_flags_25 rfl hl (by decide) rfl (fun ls hl => ?_)
        refine r_iincN (lv' := [(2, .int (nI (i + 1))), (1, .int (x ||| ((s (40 + 9 * i + 7)) <<< ((nI i) &&& 31)))), (0, .ref (L 0))]) hx hb i 1 rfl dX7_flags_26 hl (k := 2) rfl rfl (by decide) rfl (fun ls hl => ?_)
        refine lv_goto (tgt := 4) hx hb dX7_flags_29 (by decide) ?_
        exact ih4 (i + 1) (x ||| ((s (40 + 9 * i + 7)) <<< ((nI i) &&& 31))) (by omega) (by omega) (by rw [hx0]; rfl) _ _ _ hw (lv_sub hl [2, 1, 0] rfl)
  exact key4 4 0 0 (by omega) (by omega) rfl _ _ _ hw (lv_sub hl [2, 1, 0] rfl)

set_option maxRecDepth 100000 in
set_option maxHeartbeats 4000000 in
theorem c_X7_clear_0 (l : Launch) (D : va_G) (sz : Nat) (L : Nat → Nat) (s pa : Row) (P : Nat) (S4 : MT4) (hP : P ≤ 4) : MI l yX7_clear cX7_clear 3 (some .int) 2 42 D sz [.ref (L 0)] (mW D L (s, pa, nI P, 0, S4)) (sp_X7_flags s) (mW D L (clN s 3, (pushR s pa P).1, nI (pushR s pa P).2, 0, S4)) := by
  refine r_enterI (by decide) (Nat.le_of_ble_eq_true rfl) ?_
  intro p e st m args below meth c ls A X hret hk hw hl
  have X : CX D p m c cX7_clear 3 st args RX7 A := X
  have hx := X.1.1
  have hb := X.1.2.1
  have hown := X.1.2.2.2.1
  have hts := X.1.2.2.2.2
  have hl : lv_has ls 3 [(0, .ref (L 0))] := hl
  refine lv_aload_n hx hb dX7_clear_0 rfl (lv_at hl 0 rfl) ?_
  refine r_callVv X hw (ws' := mW D L (s, (pushR s pa P).1, nI (pushR s pa P).2, 0, S4)) (As := []) (rest := []) lk_X7_107 (c_X7_changes0 l D _ L s pa P 0 S4 (by omega)) Foc.all (m_at 0 rfl) rfl hl.1 (Nat.le_of_ble_eq_true rfl) ⟨Nat.le_of_ble_eq_true rfl, Nat.le_of_ble_eq_true rfl⟩ rfl dX7_clear_1 ⟨Nat.le_refl _, Nat.le_refl _⟩ (fun H locs hw => ?_)
  refine lv_aload_n hx hb dX7_clear_4 rfl (lv_at hl 0 rfl) ?_
  refine r_callV X hw (ws' := mW D L (s, (pushR s pa P).1, nI (pushR s pa P).2, 0, S4)) (As := []) (rest := []) lk_X7_140 (c_X7_flags l D _ L s ((pushR s pa P).1, nI (pushR s pa P).2, 0, S4)) Foc.all (m_at 0 rfl) rfl hl.1 (Nat.le_of_ble_eq_true rfl) ⟨Nat.le_of_ble_eq_true rfl, Nat.le_of_ble_eq_true rfl⟩ rfl dX7_clear_5 ⟨Nat.le_refl _, Nat.le_refl _⟩ (fun H locs hw => ?_)
  refine lv_istore_n (lv' := [(1, .int (sp_X7_flags s)), (0, .ref (L 0))]) hx hb dX7_clear_8 rfl hl (by decide) rfl (fun ls hl => ?_)
  refine lv_iconst (v := 0) hx hb dX7_clear_9 (by decide) ?_
  refine lv_istore_n (lv' := [(2, .int 0), (1, .int (sp_X7_flags s)), (0, .ref (L 0))]) hx hb dX7_clear_10 rfl hl (by decide) rfl (fun ls hl => ?_)
  have key11 : ∀ (n11 : Nat) (i : Nat), (i ≤ 3) → (3 - i < n11) → ∀ (H : Heap) (locs : List Loc) (ls : Array Slot), Wd D A st.heap H locs (mW D L (clN s i, (pushR s pa P).1, nI (pushR s pa P).2, 0, S4)) → lv_has ls 3 [(0, .ref (L 0)), (1, .int (sp_X7_flags s)), (2, .int (nI i))] → W p l e (rmOf 2 0 0 42) st m args below meth c H locs 0 0 (QI below args st D A (sp_X7_flags s) (mW D L (clN s 3, (pushR s pa P).1, nI (pushR s pa P).2, 0, S4))) (F0 m 11 ls []) := by
    intro n11
    induction n11 with
    | zero => intro i hi hm; omega
    | succ n11 ih11 =>
      intro i hi hm H locs ls hw hl
      refine lv_iload_n hx hb dX7_clear_11 rfl (lv_at hl 2 rfl) ?_
      refine lv_iconst (v := 3) hx hb dX7_clear_12 (by decide) ?_
      refine r_geN (tgt := 35) hx hb i 3 rfl rfl (by omega) (by omega) dX7_clear_13 (by decide) (fun c1 => ?_) (fun c1 => ?_)
      · skip
        refine lv_iload_n hx hb dX7_clear_35 rfl (lv_at hl 1 rfl) ?_
        exact r_ret X hw hk hret rfl rfl (by rw [show i = 3 from by omega]) dX7_clear_36
      · skip
        refine lv_aload_n hx hb dX7_clear_16 rfl (lv_at hl 0 rfl) ?_
        refine r_get X hw (v := .ref (L 1)) fl_X7_7 (m_at 0 rfl) rfl dX7_clear_17 ?_
        refine lv_iload_n hx hb dX7_clear_20 rfl (lv_at hl 2 rfl) ?_
        refine r_callS X hw (ws' := mW D L (clN s i, (pushR s pa P).1, nI (pushR s pa P).2, 0, S4)) (As := [.int (nI i)]) (rest := [.ref (L 1)]) lk_X7_88 (c_X7_alarmAtN l D _ i (by omega)) Foc.nil rfl hl.1 (Nat.le_of_ble_eq_true rfl) ⟨Nat.le_of_ble_eq_true rfl, Nat.le_of_ble_eq_true rfl⟩ rfl dX7_clear_21 ⟨Nat.le_refl _, Nat.le_refl _⟩ (fun H locs hw => ?_)
        refine lv_bipush (v := 7) hx hb dX7_clear_24 (by decide) ?_
        refine r_addN hx hb (40 + 9 * i) 7 rfl rfl dX7_clear_26 ?_
        refine lv_iconst (v := 0) hx hb dX7_clear_27 (by decide) ?_
        refine r_iast X hw (ws' := mW D L (upd (clN s i) (40 + 9 * i + 7) 0, (pushR s pa P).1, nI (pushR s pa P).2, 0, S4)) (40 + 9 * i + 7) rfl (by omega) (by decide) (Foc.cell 1 rfl rfl rfl) dX7_clear_28 (fun H locs hw => ?_)
        refine r_iincN (lv' := [(2, .int (nI (i + 1))), (0, .ref (L 0)), (1, .int (sp_X7_flags s))]) hx hb i 1 rfl dX7_clear_29 hl (k := 2) rfl rfl (by decide) rfl (fun ls hl => ?_)
        refine lv_goto (tgt := 11) hx hb dX7_clear_32 (by decide) ?_
        exact ih11 (i + 1) (by omega) (by omega) _ _ _ hw (lv_sub hl [1, 2, 0] rfl)
  exact key11 4 0 (by omega) (by omega) _ _ _ hw (lv_sub hl [2, 1, 0] rfl)

/-- the ones of a byte, bit by bit -/
def bitA (b : Nat) : Nat → Int32
  | 0 => 0
  | i + 1 => bitA b i + (nI (b / 2 ^ i) - nI (b / 2 ^ i) / 2 * 2)
theorem bitA_end : ∀ b, b < 256 → ∀ i, i < 9 → b / 2 ^ i = 0 → bitA b i = bitA b 8 := by decide +kernel
theorem bit_lt {b i : Nat} (hb : b < 256) (hi : i ≤ 8) (h : ¬ b / 2 ^ i = 0) : i + 1 ≤ 8 := by
  rcases Nat.lt_or_ge i 8 with q | q
  · exact q
  · rw [show i = 8 from by omega] at h
    exact absurd (Nat.div_eq_of_lt (by omega)) h
theorem half (b i : Nat) (hb : b < 256) : nI (b / 2 ^ i) / 2 = nI (b / 2 ^ (i + 1)) := by
  have h := Nat.div_le_self b (2 ^ i)
  rw [show (2 : Int32) = nI 2 from rfl, pk_div (by omega) (by decide) (by decide), Nat.div_div_eq_div_mul, Nat.pow_succ]
/-- every number from o on is a byte, seven of them -/
def byteR (s : Row) (o : Nat) : Prop := ∀ r, r < 7 → ∃ b, b < 256 ∧ s (o + r) = nI b
def bitsI (x : Int32) : Int32 := bitA x.toNatClampNeg 8
theorem bitsI_n {b : Nat} (h : b < 256) : bitsI (nI b) = bitA b 8 := by
  unfold bitsI
  rw [nI_clamp (by omega)]
def failN (s : Row) : Nat → Int32
  | 0 => 0
  | i + 1 => failN s i + bitsI (s (7 + i))

set_option maxRecDepth 100000 in
set_option maxHeartbeats 4000000 in
theorem c_X7_bits (l : Launch) (D : va_G) (sz : Nat) (b : Nat) (hb9 : b < 256) : MI l yX7_bits cX7_bits 3 (some .int) 0 0 D sz [.int (nI b)] [] (bitA b 8) ([]) := by
  refine r_enterI (by decide) (Nat.le_of_ble_eq_true rfl) ?_
  intro p e st m args below meth c ls A X hret hk hw hl
  have X : CX D p m c cX7_bits 3 st args RX7 A := X
  have hx := X.1.1
  have hb := X.1.2.1
  have hown := X.1.2.2.2.1
  have hts := X.1.2.2.2.2
  have hl : lv_has ls 3 [(0, .int (nI b))] := hl
  refine lv_iconst (v := 0) hx hb dX7_bits_0 (by decide) ?_
  refine lv_istore_n (lv' := [(1, .int 0), (0, .int (nI b))]) hx hb dX7_bits_1 rfl hl (by decide) rfl (fun ls hl => ?_)
  refine lv_iload_n hx hb dX7_bits_2 rfl (lv_at hl 1 rfl) ?_
  rw [show nI b = nI (b / 2 ^ 0) from by rw [Nat.pow_zero, Nat.div_one]]
  refine lv_istore_n (lv' := [(2, .int (nI (b / 2 ^ 0))), (1, .int 0), (0, .int (nI b))]) hx hb dX7_bits_3 rfl hl (by decide) rfl (fun ls hl => ?_)
  have key4 : ∀ (n4 : Nat) (i : Nat) (x : Int32), (i ≤ 8) → (9 - i < n4) → (x = bitA b i) → ∀ (H : Heap) (locs : List Loc) (ls : Array Slot), Wd D A st.heap H locs ([]) → lv_has ls 3 [(0, .int (nI b)), (1, .int x), (2, .int (nI (b / 2 ^ i)))] → W p l e (rmOf 0 0 0 0) st m args below meth c H locs 0 0 (QI below args st D A (bitA b 8) ([])) (F0 m 4 ls []) := by
    intro n4
    induction n4 with
    | zero => intro i x hi hm hx0; omega
    | succ n4 ih4 =>
      intro i x hi hm hx0 H locs ls hw hl
      have hd := Nat.div_le_self b (2 ^ i)
      refine lv_iload_n hx hb dX7_bits_4 rfl (lv_at hl 2 rfl) ?_
      refine lv_if_le (tgt := 21) hx hb dX7_bits_5 (by decide) (fun c1 => ?_) (fun c1 => ?_)
      · skip
        refine lv_iload_n hx hb dX7_bits_21 rfl (lv_at hl 1 rfl) ?_
        exact r_ret X hw hk hret rfl (by rw [hx0]; refine bitA_end b hb9 i (by omega) ?_; have g := c1; rw [show (0 : Int32) = nI 0 from rfl, nI_leI (by omega) (by decide)] at g; exact Nat.le_zero.mp g) rfl dX7_bits_22
      · skip
        refine lv_iload_n hx hb dX7_bits_8 rfl (lv_at hl 1 rfl) ?_
        refine lv_iload_n hx hb dX7_bits_9 rfl (lv_at hl 2 rfl) ?_
        refine lv_iconst (v := 2) hx hb dX7_bits_10 (by decide) ?_
        refine lv_irem hx hb dX7_bits_11 (by decide) ?_
        refine lv_iadd hx hb dX7_bits_12 ?_
        refine lv_istore_n (lv' := [(1, .int (x + ((nI (b / 2 ^ i)) - (nI (b / 2 ^ i)) / 2 * 2))), (0, .int (nI b)), (2, .int (nI (b / 2 ^ i)))]) hx hb dX7_bits_13 rfl hl (by decide) rfl (fun ls hl => ?_)
        refine lv_iload_n hx hb dX7_bits_14 rfl (lv_at hl 2 rfl) ?_
        refine lv_iconst (v := 2) hx hb dX7_bits_15 (by decide) ?_
        refine lv_idiv hx hb dX7_bits_16 (by decide) ?_
        rw [half b i hb9]
        refine lv_istore_n (lv' := [(2, .int (nI (b / 2 ^ (i + 1)))), (1, .int (x + ((nI (b / 2 ^ i)) - (nI (b / 2 ^ i)) / 2 * 2))), (0, .int (nI b))]) hx hb dX7_bits_17 rfl hl (by decide) rfl (fun ls hl => ?_)
        refine lv_goto (tgt := 4) hx hb dX7_bits_18 (by decide) ?_
        exact ih4 (i + 1) (x + ((nI (b / 2 ^ i)) - (nI (b / 2 ^ i)) / 2 * 2)) (bit_lt hb9 hi (fun q => c1 (by rw [q]; decide))) (by omega) (by rw [hx0]; rfl) _ _ _ hw (lv_sub hl [2, 1, 0] rfl)
  exact key4 10 0 0 (by omega) (by omega) rfl _ _ _ hw (lv_sub hl [2, 1, 0] rfl)

set_option maxRecDepth 100000 in
set_option maxHeartbeats 4000000 in
theorem c_X7_failed (l : Launch) (D : va_G) (sz : Nat) (L : Nat → Nat) (s : Row) (S2 : MT) (hbad : byteR s 7) : MI l yX7_failed cX7_failed 3 (some .int) 1 22 D sz [.ref (L 0)] (mW D L (s, S2)) (failN s 7) (mW D L (s, S2)) := by
  refine r_enterI (by decide) (Nat.le_of_ble_eq_true rfl) ?_
  intro p e st m args below meth c ls A X hret hk hw hl
  have X : CX D p m c cX7_failed 3 st args RX7 A := X
  have hx := X.1.1
  have hb := X.1.2.1
  have hown := X.1.2.2.2.1
  have hts := X.1.2.2.2.2
  have hl : lv_has ls 3 [(0, .ref (L 0))] := hl
  refine lv_iconst (v := 0) hx hb dX7_failed_0 (by decide) ?_
  refine lv_istore_n (lv' := [(1, .int 0), (0, .ref (L 0))]) hx hb dX7_failed_1 rfl hl (by decide) rfl (fun ls hl => ?_)
  refine lv_iconst (v := 0) hx hb dX7_failed_2 (by decide) ?_
  refine lv_istore_n (lv' := [(2, .int 0), (1, .int 0), (0, .ref (L 0))]) hx hb dX7_failed_3 rfl hl (by decide) rfl (fun ls hl => ?_)
  have key4 : ∀ (n4 : Nat) (i : Nat) (x : Int32), (i ≤ 7) → (7 - i < n4) → (x = failN s i) → ∀ (H : Heap) (locs : List Loc) (ls : Array Slot), Wd D A st.heap H locs (mW D L (s, S2)) → lv_has ls 3 [(0, .ref (L 0)), (1, .int x), (2, .int (nI i))] → W p l e (rmOf 1 0 0 22) st m args below meth c H locs 0 0 (QI below args st D A (failN s 7) (mW D L (s, S2))) (F0 m 4 ls []) := by
    intro n4
    induction n4 with
    | zero => intro i x hi hm hx0; omega
    | succ n4 ih4 =>
      intro i x hi hm hx0 H locs ls hw hl
      refine lv_iload_n hx hb dX7_failed_4 rfl (lv_at hl 2 rfl) ?_
      refine lv_bipush (v := 7) hx hb dX7_failed_5 (by decide) ?_
      refine r_geN (tgt := 31) hx hb i 7 rfl rfl (by omega) (by omega) dX7_failed_7 (by decide) (fun c1 => ?_) (fun c1 => ?_)
      · skip
        refine lv_iload_n hx hb dX7_failed_31 rfl (lv_at hl 1 rfl) ?_
        exact r_ret X hw hk hret rfl (by rw [hx0, show i = 7 from by omega]) rfl dX7_failed_32
      · skip
        refine lv_iload_n hx hb dX7_failed_10 rfl (lv_at hl 1 rfl) ?_
        refine lv_aload_n hx hb dX7_failed_11 rfl (lv_at hl 0 rfl) ?_
        refine r_get X hw (v := .ref (L 1)) fl_X7_7 (m_at 0 rfl) rfl dX7_failed_12 ?_
        refine lv_bipush (v := 7) hx hb dX7_failed_15 (by decide) ?_
        refine lv_iload_n hx hb dX7_failed_17 rfl (lv_at hl 2 rfl) ?_
        refine r_addN hx hb 7 i rfl rfl dX7_failed_18 ?_
        refine r_iald X hw (f := s) (7 + i) (m_at 1 rfl) rfl (by omega) (by decide) dX7_failed_19 ?_
        obtain ⟨b, hb9, eb⟩ := hbad i (by omega)
        rw [eb]
        refine r_callS X hw (ws' := mW D L (s, S2)) (As := [.int (nI b)]) (rest := [.int x]) lk_X7_143 (c_X7_bits l D _ b (by omega)) Foc.nil rfl hl.1 (Nat.le_of_ble_eq_true rfl) ⟨Nat.le_of_ble_eq_true rfl, Nat.le_of_ble_eq_true rfl⟩ rfl dX7_failed_20 ⟨Nat.le_refl _, Nat.le_refl _⟩ (fun H locs hw => ?_)
        refine lv_iadd hx hb dX7_failed_23 ?_
        refine lv_istore_n (lv' := [(1, .int (x + (bitA b 8))), (0, .ref (L 0)), (2, .int (nI i))]) hx hb dX7_failed_24 rfl hl (by decide) rfl (fun ls hl => ?_)
        refine r_iincN (lv' := [(2, .int (nI (i + 1))), (1, .int (x + (bitA b 8))), (0, .ref (L 0))]) hx hb i 1 rfl dX7_failed_25 hl (k := 2) rfl rfl (by decide) rfl (fun ls hl => ?_)
        refine lv_goto (tgt := 4) hx hb dX7_failed_28 (by decide) ?_
        exact ih4 (i + 1) (x + (bitA b 8)) (by omega) (by omega) (by show _ = failN s i + bitsI (s (7 + i)); rw [hx0, eb, bitsI_n hb9]) _ _ _ hw (lv_sub hl [2, 1, 0] rfl)
  exact key4 8 0 0 (by omega) (by omega) rfl _ _ _ hw (lv_sub hl [2, 1, 0] rfl)

noncomputable def sp_X7_fail (s : Row) (r : Nat) (k : Nat) (v : Nat) : Int32 × Row := ((sp_X7_puts (upd (upd s (7 + r) ((s (7 + r)) + ((1 : Int32) <<< ((nI k) &&& 31)))) (14 + r) ((((upd s (7 + r) ((s (7 + r)) + ((1 : Int32) <<< ((nI k) &&& 31)))) (14 + r)) &&& (255 - ((1 : Int32) <<< ((nI k) &&& 31)))) ||| ((nI v) <<< ((nI k) &&& 31)))) r ((upd (upd s (7 + r) ((s (7 + r)) + ((1 : Int32) <<< ((nI k) &&& 31)))) (14 + r) ((((upd s (7 + r) ((s (7 + r)) + ((1 : Int32) <<< ((nI k) &&& 31)))) (14 + r)) &&& (255 - ((1 : Int32) <<< ((nI k) &&& 31)))) ||| ((nI v) <<< ((nI k) &&& 31)))) (0 + r))) (0 + r), sp_X7_puts (upd (upd s (7 + r) ((s (7 + r)) + ((1 : Int32) <<< ((nI k) &&& 31)))) (14 + r) ((((upd s (7 + r) ((s (7 + r)) + ((1 : Int32) <<< ((nI k) &&& 31)))) (14 + r)) &&& (255 - ((1 : Int32) <<< ((nI k) &&& 31)))) ||| ((nI v) <<< ((nI k) &&& 31)))) r ((upd (upd s (7 + r) ((s (7 + r)) + ((1 : Int32) <<< ((nI k) &&& 31)))) (14 + r) ((((upd s (7 + r) ((s (7 + r)) + ((1 : Int32) <<< ((nI k) &&& 31)))) (14 + r)) &&& (255 - ((1 : Int32) <<< ((nI k) &&& 31)))) ||| ((nI v) <<< ((nI k) &&& 31)))) (0 + r)))
set_option maxRecDepth 100000 in
set_option maxHeartbeats 4000000 in
theorem c_X7_fail_0 (l : Launch) (D : va_G) (sz : Nat) (L : Nat → Nat) (s pa : Row) (P : Nat) (S4 : MT4) (r : Nat) (k : Nat) (v : Nat) (hr : r < 7) (hk : k < 8) (hv : v < 2) (hP : P ≤ 4) (hc : ¬ (s (7 + r) >>> (nI k &&& 31)) &&& 1 = 1) : MI l yX7_fail cX7_fail 4 (some .int) 2 42 D sz [.ref (L 0), .int (nI r), .int (nI k), .int (nI v)] (mW D L (s, pa, nI P, 0, S4)) ((sp_X7_fail s r k v).1) (mW D L ((sp_X7_fail s r k v).2, (pushR s pa P).1, nI (pushR s pa P).2, 0, S4)) := by
  refine r_enterI (by decide) (Nat.le_of_ble_eq_true rfl) ?_
  intro p e st m args below meth c ls A X hret hk hw hl
  have X : CX D p m c cX7_fail 4 st args RX7 A := X
  have hx := X.1.1
  have hb := X.1.2.1
  have hown := X.1.2.2.2.1
  have hts := X.1.2.2.2.2
  have hl : lv_has ls 4 [(0, .ref (L 0)), (1, .int (nI r)), (2, .int (nI k)), (3, .int (nI v))] := hl
  refine lv_iload_n hx hb dX7_fail_0 rfl (lv_at hl 1 rfl) ?_
  refine r_callS X hw (ws' := mW D L (s, pa, nI P, 0, S4)) (As := [.int (nI r)]) (rest := []) lk_X7_103 (c_X7_isRegister l D _ (nI r)) Foc.nil rfl hl.1 (Nat.le_of_ble_eq_true rfl) ⟨Nat.le_of_ble_eq_true rfl, Nat.le_of_ble_eq_true rfl⟩ rfl dX7_fail_1 ⟨Nat.le_refl _, Nat.le_refl _⟩ (fun H locs hw => ?_)
  refine lv_if_eq (tgt := 26) hx hb dX7_fail_4 (by decide) (fun h => absurd h (isReg_ok (by omega))) (fun _ => ?_)
  refine lv_iload_n hx hb dX7_fail_7 rfl (lv_at hl 2 rfl) ?_
  refine lv_iconst (v := 0) hx hb dX7_fail_8 (by decide) ?_
  refine lv_bipush (v := 7) hx hb dX7_fail_9 (by decide) ?_
  refine r_callS X hw (ws' := mW D L (s, pa, nI P, 0, S4)) (As := [.int (nI k), .int 0, .int 7]) (rest := []) lk_X7_45 (c_X7_in l D _ (nI k) 0 7) Foc.nil rfl hl.1 (Nat.le_of_ble_eq_true rfl) ⟨Nat.le_of_ble_eq_true rfl, Nat.le_of_ble_eq_true rfl⟩ rfl dX7_fail_11 ⟨Nat.le_refl _, Nat.le_refl _⟩ (fun H locs hw => ?_)
  refine lv_if_eq (tgt := 26) hx hb dX7_fail_14 (by decide) (fun h => absurd h (in_ok k 7 (by omega) (by decide))) (fun _ => ?_)
  refine lv_iload_n hx hb dX7_fail_17 rfl (lv_at hl 3 rfl) ?_
  refine lv_iconst (v := 0) hx hb dX7_fail_18 (by decide) ?_
  refine lv_iconst (v := 1) hx hb dX7_fail_19 (by decide) ?_
  refine r_callS X hw (ws' := mW D L (s, pa, nI P, 0, S4)) (As := [.int (nI v), .int 0, .int 1]) (rest := []) lk_X7_45 (c_X7_in l D _ (nI v) 0 1) Foc.nil rfl hl.1 (Nat.le_of_ble_eq_true rfl) ⟨Nat.le_of_ble_eq_true rfl, Nat.le_of_ble_eq_true rfl⟩ rfl dX7_fail_20 ⟨Nat.le_refl _, Nat.le_refl _⟩ (fun H locs hw => ?_)
  refine lv_if_ne (tgt := 29) hx hb dX7_fail_23 (by decide) (fun _ => ?_) (fun h => absurd h (in_ok v 1 (by omega) (by decide)))
  refine lv_aload_n hx hb dX7_fail_29 rfl (lv_at hl 0 rfl) ?_
  refine r_get X hw (v := .ref (L 1)) fl_X7_7 (m_at 0 rfl) rfl dX7_fail_30 ?_
  refine lv_bipush (v := 7) hx hb dX7_fail_33 (by decide) ?_
  refine lv_iload_n hx hb dX7_fail_35 rfl (lv_at hl 1 rfl) ?_
  refine r_addN hx hb 7 r rfl rfl dX7_fail_36 ?_
  refine r_iald X hw (f := s) (7 + r) (m_at 1 rfl) rfl (by omega) (by decide) dX7_fail_37 ?_
  refine lv_iload_n hx hb dX7_fail_38 rfl (lv_at hl 2 rfl) ?_
  refine lv_ishr hx hb dX7_fail_39 ?_
  refine lv_iconst (v := 1) hx hb dX7_fail_40 (by decide) ?_
  refine lv_iand hx hb dX7_fail_41 ?_
  refine lv_iconst (v := 1) hx hb dX7_fail_42 (by decide) ?_
  refine lv_icmp_ne (tgt := 49) hx hb dX7_fail_43 (by decide) (fun _ => ?_) (fun h => absurd h hc)
  refine lv_aload_n hx hb dX7_fail_49 rfl (lv_at hl 0 rfl) ?_
  refine r_callVv X hw (ws' := mW D L (s, (pushR s pa P).1, nI (pushR s pa P).2, 0, S4)) (As := []) (rest := []) lk_X7_107 (c_X7_changes0 l D _ L s pa P 0 S4 (by omega)) Foc.all (m_at 0 rfl) rfl hl.1 (Nat.le_of_ble_eq_true rfl) ⟨Nat.le_of_ble_eq_true rfl, Nat.le_of_ble_eq_true rfl⟩ rfl dX7_fail_50 ⟨Nat.le_refl _, Nat.le_refl _⟩ (fun H locs hw => ?_)
  refine lv_aload_n hx hb dX7_fail_53 rfl (lv_at hl 0 rfl) ?_
  refine r_get X hw (v := .ref (L 1)) fl_X7_7 (m_at 0 rfl) rfl dX7_fail_54 ?_
  refine lv_bipush (v := 7) hx hb dX7_fail_57 (by decide) ?_
  refine lv_iload_n hx hb dX7_fail_59 rfl (lv_at hl 1 rfl) ?_
  refine r_addN hx hb 7 r rfl rfl dX7_fail_60 ?_
  refine lv_dup2_11 hx hb dX7_fail_61 rfl rfl ?_
  refine r_iald X hw (f := s) (7 + r) (m_at 1 rfl) rfl (by omega) (by decide) dX7_fail_62 ?_
  refine lv_iconst (v := 1) hx hb dX7_fail_63 (by decide) ?_
  refine lv_iload_n hx hb dX7_fail_64 rfl (lv_at hl 2 rfl) ?_
  refine lv_ishl hx hb dX7_fail_65 ?_
  refine lv_iadd hx hb dX7_fail_66 ?_
  refine r_iast X hw (ws' := mW D L (upd s (7 + r) ((s (7 + r)) + ((1 : Int32) <<< ((nI k) &&& 31))), (pushR s pa P).1, nI (pushR s pa P).2, 0, S4)) (7 + r) rfl (by omega) (by decide) (Foc.cell 1 rfl rfl rfl) dX7_fail_67 (fun H locs hw => ?_)
  refine lv_aload_n hx hb dX7_fail_68 rfl (lv_at hl 0 rfl) ?_
  refine r_get X hw (v := .ref (L 1)) fl_X7_7 (m_at 0 rfl) rfl dX7_fail_69 ?_
  refine lv_bipush (v := 14) hx hb dX7_fail_72 (by decide) ?_
  refine lv_iload_n hx hb dX7_fail_74 rfl (lv_at hl 1 rfl) ?_
  refine r_addN hx hb 14 r rfl rfl dX7_fail_75 ?_
  refine lv_aload_n hx hb dX7_fail_76 rfl (lv_at hl 0 rfl) ?_
  refine r_get X hw (v := .ref (L 1)) fl_X7_7 (m_at 0 rfl) rfl dX7_fail_77 ?_
  refine lv_bipush (v := 14) hx hb dX7_fail_80 (by decide) ?_
  refine lv_iload_n hx hb dX7_fail_82 rfl (lv_at hl 1 rfl) ?_
  refine r_addN hx hb 14 r rfl rfl dX7_fail_83 ?_
  refine r_iald X hw (f := upd s (7 + r) ((s (7 + r)) + ((1 : Int32) <<< ((nI k) &&& 31)))) (14 + r) (m_at 1 rfl) rfl (by omega) (by decide) dX7_fail_84 ?_
  refine lv_sipush (v := 255) hx hb dX7_fail_85 (by decide) ?_
  refine lv_iconst (v := 1) hx hb dX7_fail_88 (by decide) ?_
  refine lv_iload_n hx hb dX7_fail_89 rfl (lv_at hl 2 rfl) ?_
  refine lv_ishl hx hb dX7_fail_90 ?_
  refine lv_isub hx hb dX7_fail_91 ?_
  refine lv_iand hx hb dX7_fail_92 ?_
  refine lv_iload_n hx hb dX7_fail_93 rfl (lv_at hl 3 rfl) ?_
  refine lv_iload_n hx hb dX7_fail_94 rfl (lv_at hl 2 rfl) ?_
  refine lv_ishl hx hb dX7_fail_95 ?_
  refine lv_ior hx hb dX7_fail_96 ?_
  refine r_iast X hw (ws' := mW D L (upd (upd s (7 + r) ((s (7 + r)) + ((1 : Int32) <<< ((nI k) &&& 31)))) (14 + r) ((((upd s (7 + r) ((s (7 + r)) + ((1 : Int32) <<< ((nI k) &&& 31)))) (14 + r)) &&& (255 - ((1 : Int32) <<< ((nI k) &&& 31)))) ||| ((nI v) <<< ((nI k) &&& 31))), (pushR s pa P).1, nI (pushR s pa P).2, 0, S4)) (14 + r) rfl (by omega) (by decide) (Foc.cell 1 rfl rfl rfl) dX7_fail_97 (fun H locs hw => ?_)
  refine lv_aload_n hx hb dX7_fail_98 rfl (lv_at hl 0 rfl) ?_
  refine lv_iload_n hx hb dX7_fail_99 rfl (lv_at hl 1 rfl) ?_
  refine lv_aload_n hx hb dX7_fail_100 rfl (lv_at hl 0 rfl) ?_
  refine r_get X hw (v := .ref (L 1)) fl_X7_7 (m_at 0 rfl) rfl dX7_fail_101 ?_
  refine lv_iconst (v := 0) hx hb dX7_fail_104 (by decide) ?_
  refine lv_iload_n hx hb dX7_fail_105 rfl (lv_at hl 1 rfl) ?_
  refine r_addN hx hb 0 r rfl rfl dX7_fail_106 ?_
  refine r_iald X hw (f := upd (upd s (7 + r) ((s (7 + r)) + ((1 : Int32) <<< ((nI k) &&& 31)))) (14 + r) ((((upd s (7 + r) ((s (7 + r)) + ((1 : Int32) <<< ((nI k) &&& 31)))) (14 + r)) &&& (255 - ((1 : Int32) <<< ((nI k) &&& 31)))) ||| ((nI v) <<< ((nI k) &&& 31)))) (0 + r) (m_at 1 rfl) rfl (by omega) (by decide) dX7_fail_107 ?_
  refine r_callVv X hw (ws' := mW D L (sp_X7_puts (upd (upd s (7 + r) ((s (7 + r)) + ((1 : Int32) <<< ((nI k) &&& 31)))) (14 + r) ((((upd s (7 + r) ((s (7 + r)) + ((1 : Int32) <<< ((nI k) &&& 31)))) (14 + r)) &&& (255 - ((1 : Int32) <<< ((nI k) &&& 31)))) ||| ((nI v) <<< ((nI k) &&& 31)))) r ((upd (upd s (7 + r) ((s (7 + r)) + ((1 : Int32) <<< ((nI k) &&& 31)))) (14 + r) ((((upd s (7 + r) ((s (7 + r)) + ((1 : Int32) <<< ((nI k) &&& 31)))) (14 + r)) &&& (255 - ((1 : Int32) <<< ((nI k) &&& 31)))) ||| ((nI v) <<< ((nI k) &&& 31)))) (0 + r)), (pushR s pa P).1, nI (pushR s pa P).2, 0, S4)) (As := [.int (nI r), .int ((upd (upd s (7 + r) ((s (7 + r)) + ((1 : Int32) <<< ((nI k) &&& 31)))) (14 + r) ((((upd s (7 + r) ((s (7 + r)) + ((1 : Int32) <<< ((nI k) &&& 31)))) (14 + r)) &&& (255 - ((1 : Int32) <<< ((nI k) &&& 31)))) ||| ((nI v) <<< ((nI k) &&& 31)))) (0 + r))]) (rest := []) lk_X7_84 (c_X7_puts l D _ L (upd (upd s (7 + r) ((s (7 + r)) + ((1 : Int32) <<< ((nI k) &&& 31)))) (14 + r) ((((upd s (7 + r) ((s (7 + r)) + ((1 : Int32) <<< ((nI k) &&& 31)))) (14 + r)) &&& (255 - ((1 : Int32) <<< ((nI k) &&& 31)))) ||| ((nI v) <<< ((nI k) &&& 31)))) ((pushR s pa P).1, nI (pushR s pa P).2, 0, S4) r ((upd (upd s (7 + r) ((s (7 + r)) + ((1 : Int32) <<< ((nI k) &&& 31)))) (14 + r) ((((upd s (7 + r) ((s (7 + r)) + ((1 : Int32) <<< ((nI k) &&& 31)))) (14 + r)) &&& (255 - ((1 : Int32) <<< ((nI k) &&& 31)))) ||| ((nI v) <<< ((nI k) &&& 31)))) (0 + r)) (by omega)) Foc.all (m_at 0 rfl) rfl hl.1 (Nat.le_of_ble_eq_true rfl) ⟨Nat.le_of_ble_eq_true rfl, Nat.le_of_ble_eq_true rfl⟩ rfl dX7_fail_108 ⟨Nat.le_refl _, Nat.le_refl _⟩ (fun H locs hw => ?_)
  refine lv_aload_n hx hb dX7_fail_111 rfl (lv_at hl 0 rfl) ?_
  refine r_get X hw (v := .ref (L 1)) fl_X7_7 (m_at 0 rfl) rfl dX7_fail_112 ?_
  refine lv_iconst (v := 0) hx hb dX7_fail_115 (by decide) ?_
  refine lv_iload_n hx hb dX7_fail_116 rfl (lv_at hl 1 rfl) ?_
  refine r_addN hx hb 0 r rfl rfl dX7_fail_117 ?_
  refine r_iald X hw (f := sp_X7_puts (upd (upd s (7 + r) ((s (7 + r)) + ((1 : Int32) <<< ((nI k) &&& 31)))) (14 + r) ((((upd s (7 + r) ((s (7 + r)) + ((1 : Int32) <<< ((nI k) &&& 31)))) (14 + r)) &&& (255 - ((1 : Int32) <<< ((nI k) &&& 31)))) ||| ((nI v) <<< ((nI k) &&& 31)))) r ((upd (upd s (7 + r) ((s (7 + r)) + ((1 : Int32) <<< ((nI k) &&& 31)))) (14 + r) ((((upd s (7 + r) ((s (7 + r)) + ((1 : Int32) <<< ((nI k) &&& 31)))) (14 + r)) &&& (255 - ((1 : Int32) <<< ((nI k) &&& 31)))) ||| ((nI v) <<< ((nI k) &&& 31)))) (0 + r))) (0 + r) (m_at 1 rfl) rfl (by omega) (by decide) dX7_fail_118 ?_
  exact r_ret X hw hk hret rfl (rfl) (rfl) dX7_fail_119

set_option maxRecDepth 100000 in
set_option maxHeartbeats 4000000 in
theorem c_X7_fail_np (l : Launch) (D : va_G) (sz : Nat) (L : Nat → Nat) (s : Row) (S2 : MT) (r k v : Nat) (hr : r < 7) (hk : k < 8) (hv : v < 2) (hc : (s (7 + r) >>> (nI k &&& 31)) &&& 1 = 1) : MI l yX7_fail cX7_fail 4 (some .int) 2 42 D sz [.ref (L 0), .int (nI r), .int (nI k), .int (nI v)] (mW D L (s, S2)) (-1000002) (mW D L (s, S2)) := by
  refine r_enterI (by decide) (Nat.le_of_ble_eq_true rfl) ?_
  intro p e st m args below meth c ls A X hret hk hw hl
  have X : CX D p m c cX7_fail 4 st args RX7 A := X
  have hx := X.1.1
  have hb := X.1.2.1
  have hown := X.1.2.2.2.1
  have hts := X.1.2.2.2.2
  have hl : lv_has ls 4 [(0, .ref (L 0)), (1, .int (nI r)), (2, .int (nI k)), (3, .int (nI v))] := hl
  refine lv_iload_n hx hb dX7_fail_0 rfl (lv_at hl 1 rfl) ?_
  refine r_callS X hw (ws' := mW D L (s, S2)) (As := [.int (nI r)]) (rest := []) lk_X7_103 (c_X7_isRegister l D _ (nI r)) Foc.nil rfl hl.1 (Nat.le_of_ble_eq_true rfl) ⟨Nat.le_of_ble_eq_true rfl, Nat.le_of_ble_eq_true rfl⟩ rfl dX7_fail_1 ⟨Nat.le_refl _, Nat.le_refl _⟩ (fun H locs hw => ?_)
  refine lv_if_eq (tgt := 26) hx hb dX7_fail_4 (by decide) (fun h => absurd h (isReg_ok (by omega))) (fun _ => ?_)
  refine lv_iload_n hx hb dX7_fail_7 rfl (lv_at hl 2 rfl) ?_
  refine lv_iconst (v := 0) hx hb dX7_fail_8 (by decide) ?_
  refine lv_bipush (v := 7) hx hb dX7_fail_9 (by decide) ?_
  refine r_callS X hw (ws' := mW D L (s, S2)) (As := [.int (nI k), .int 0, .int 7]) (rest := []) lk_X7_45 (c_X7_in l D _ (nI k) 0 7) Foc.nil rfl hl.1 (Nat.le_of_ble_eq_true rfl) ⟨Nat.le_of_ble_eq_true rfl, Nat.le_of_ble_eq_true rfl⟩ rfl dX7_fail_11 ⟨Nat.le_refl _, Nat.le_refl _⟩ (fun H locs hw => ?_)
  refine lv_if_eq (tgt := 26) hx hb dX7_fail_14 (by decide) (fun h => absurd h (in_ok k 7 (by omega) (by decide))) (fun _ => ?_)
  refine lv_iload_n hx hb dX7_fail_17 rfl (lv_at hl 3 rfl) ?_
  refine lv_iconst (v := 0) hx hb dX7_fail_18 (by decide) ?_
  refine lv_iconst (v := 1) hx hb dX7_fail_19 (by decide) ?_
  refine r_callS X hw (ws' := mW D L (s, S2)) (As := [.int (nI v), .int 0, .int 1]) (rest := []) lk_X7_45 (c_X7_in l D _ (nI v) 0 1) Foc.nil rfl hl.1 (Nat.le_of_ble_eq_true rfl) ⟨Nat.le_of_ble_eq_true rfl, Nat.le_of_ble_eq_true rfl⟩ rfl dX7_fail_20 ⟨Nat.le_refl _, Nat.le_refl _⟩ (fun H locs hw => ?_)
  refine lv_if_ne (tgt := 29) hx hb dX7_fail_23 (by decide) (fun _ => ?_) (fun h => absurd h (in_ok v 1 (by omega) (by decide)))
  refine lv_aload_n hx hb dX7_fail_29 rfl (lv_at hl 0 rfl) ?_
  refine r_get X hw (v := .ref (L 1)) fl_X7_7 (m_at 0 rfl) rfl dX7_fail_30 ?_
  refine lv_bipush (v := 7) hx hb dX7_fail_33 (by decide) ?_
  refine lv_iload_n hx hb dX7_fail_35 rfl (lv_at hl 1 rfl) ?_
  refine r_addN hx hb 7 r rfl rfl dX7_fail_36 ?_
  refine r_iald X hw (f := s) (7 + r) (m_at 1 rfl) rfl (by omega) (by decide) dX7_fail_37 ?_
  refine lv_iload_n hx hb dX7_fail_38 rfl (lv_at hl 2 rfl) ?_
  refine lv_ishr hx hb dX7_fail_39 ?_
  refine lv_iconst (v := 1) hx hb dX7_fail_40 (by decide) ?_
  refine lv_iand hx hb dX7_fail_41 ?_
  refine lv_iconst (v := 1) hx hb dX7_fail_42 (by decide) ?_
  refine lv_icmp_ne (tgt := 49) hx hb dX7_fail_43 (by decide) (fun h => absurd hc h) (fun _ => ?_)
  refine lv_ldc (v := (-1000002)) hx hb hown (hts _ kc_X7_146) dX7_fail_46 ?_
  exact r_ret X hw hk hret rfl rfl rfl dX7_fail_48

set_option maxRecDepth 100000 in
set_option maxHeartbeats 4000000 in
theorem c_X7_fail_bad (l : Launch) (D : va_G) (sz : Nat) (L : Nat → Nat) (S : MSt) (a1 a2 a3 : Int32) (hbad : ¬ ((¬ sp_X7_isRegister a1 = 0) ∧ (¬ sp_X7_in a2 0 7 = 0) ∧ ¬ sp_X7_in a3 0 1 = 0)) : MI l yX7_fail cX7_fail 4 (some .int) 2 42 D sz [.ref (L 0), .int a1, .int a2, .int a3] (mW D L S) (-1000001) (mW D L S) := by
  refine r_enterI (by decide) (Nat.le_of_ble_eq_true rfl) ?_
  intro p e st m args below meth c ls A X hret hk hw hl
  have X : CX D p m c cX7_fail 4 st args RX7 A := X
  have hx := X.1.1
  have hb := X.1.2.1
  have hown := X.1.2.2.2.1
  have hts := X.1.2.2.2.2
  have hl : lv_has ls 4 [(0, .ref (L 0)), (1, .int a1), (2, .int a2), (3, .int a3)] := hl
  refine lv_iload_n hx hb dX7_fail_0 rfl (lv_at hl 1 rfl) ?_
  refine r_callS X hw (ws' := mW D L S) (As := [.int a1]) (rest := []) lk_X7_103 (c_X7_isRegister l D _ a1) Foc.nil rfl hl.1 (Nat.le_of_ble_eq_true rfl) ⟨Nat.le_of_ble_eq_true rfl, Nat.le_of_ble_eq_true rfl⟩ rfl dX7_fail_1 ⟨Nat.le_refl _, Nat.le_refl _⟩ (fun H locs hw => ?_)
  refine lv_if_eq (tgt := 26) hx hb dX7_fail_4 (by decide) (fun c1 => ?_) (fun c1 => ?_)
  · skip
    refine lv_ldc (v := (-1000001)) hx hb hown (hts _ kc_X7_106) dX7_fail_26 ?_
    exact r_ret X hw hk hret rfl rfl rfl dX7_fail_28
  · skip
    refine lv_iload_n hx hb dX7_fail_7 rfl (lv_at hl 2 rfl) ?_
    refine lv_iconst (v := 0) hx hb dX7_fail_8 (by decide) ?_
    refine lv_bipush (v := 7) hx hb dX7_fail_9 (by decide) ?_
    refine r_callS X hw (ws' := mW D L S) (As := [.int a2, .int 0, .int 7]) (rest := []) lk_X7_45 (c_X7_in l D _ a2 0 7) Foc.nil rfl hl.1 (Nat.le_of_ble_eq_true rfl) ⟨Nat.le_of_ble_eq_true rfl, Nat.le_of_ble_eq_true rfl⟩ rfl dX7_fail_11 ⟨Nat.le_refl _, Nat.le_refl _⟩ (fun H locs hw => ?_)
    refine lv_if_eq (tgt := 26) hx hb dX7_fail_14 (by decide) (fun c2 => ?_) (fun c2 => ?_)
    · skip
      refine lv_ldc (v := (-1000001)) hx hb hown (hts _ kc_X7_106) dX7_fail_26 ?_
      exact r_ret X hw hk hret rfl rfl rfl dX7_fail_28
    · skip
      refine lv_iload_n hx hb dX7_fail_17 rfl (lv_at hl 3 rfl) ?_
      refine lv_iconst (v := 0) hx hb dX7_fail_18 (by decide) ?_
      refine lv_iconst (v := 1) hx hb dX7_fail_19 (by decide) ?_
      refine r_callS X hw (ws' := mW D L S) (As := [.int a3, .int 0, .int 1]) (rest := []) lk_X7_45 (c_X7_in l D _ a3 0 1) Foc.nil rfl hl.1 (Nat.le_of_ble_eq_true rfl) ⟨Nat.le_of_ble_eq_true rfl, Nat.le_of_ble_eq_true rfl⟩ rfl dX7_fail_20 ⟨Nat.le_refl _, Nat.le_refl _⟩ (fun H locs hw => ?_)
      refine lv_if_ne (tgt := 29) hx hb dX7_fail_23 (by decide) (fun c3 => ?_) (fun c3 => ?_)
      · skip
        exact absurd ⟨c1, c2, c3⟩ hbad
      · skip
        refine lv_ldc (v := (-1000001)) hx hb hown (hts _ kc_X7_106) dX7_fail_26 ?_
        exact r_ret X hw hk hret rfl rfl rfl dX7_fail_28

noncomputable def sp_X7_heal (s : Row) (r : Nat) (k : Nat) : Int32 × Row := (failN (upd s (7 + r) ((s (7 + r)) - ((1 : Int32) <<< ((nI k) &&& 31)))) 7, upd s (7 + r) ((s (7 + r)) - ((1 : Int32) <<< ((nI k) &&& 31))))
set_option maxRecDepth 100000 in
set_option maxHeartbeats 4000000 in
theorem c_X7_heal_0 (l : Launch) (D : va_G) (sz : Nat) (L : Nat → Nat) (s pa : Row) (P : Nat) (S4 : MT4) (r : Nat) (k : Nat) (hr : r < 7) (hk : k < 8) (hP : P ≤ 4) (hc : ¬ (s (7 + r) >>> (nI k &&& 31)) &&& 1 = 0) (hbad : byteR (upd s (7 + r) (s (7 + r) - (1 : Int32) <<< (nI k &&& 31))) 7) : MI l yX7_heal cX7_heal 3 (some .int) 2 44 D sz [.ref (L 0), .int (nI r), .int (nI k)] (mW D L (s, pa, nI P, 0, S4)) ((sp_X7_heal s r k).1) (mW D L ((sp_X7_heal s r k).2, (pushR s pa P).1, nI (pushR s pa P).2, 0, S4)) := by
  refine r_enterI (by decide) (Nat.le_of_ble_eq_true rfl) ?_
  intro p e st m args below meth c ls A X hret hk hw hl
  have X : CX D p m c cX7_heal 3 st args RX7 A := X
  have hx := X.1.1
  have hb := X.1.2.1
  have hown := X.1.2.2.2.1
  have hts := X.1.2.2.2.2
  have hl : lv_has ls 3 [(0, .ref (L 0)), (1, .int (nI r)), (2, .int (nI k))] := hl
  refine lv_iload_n hx hb dX7_heal_0 rfl (lv_at hl 1 rfl) ?_
  refine r_callS X hw (ws' := mW D L (s, pa, nI P, 0, S4)) (As := [.int (nI r)]) (rest := []) lk_X7_103 (c_X7_isRegister l D _ (nI r)) Foc.nil rfl hl.1 (Nat.le_of_ble_eq_true rfl) ⟨Nat.le_of_ble_eq_true rfl, Nat.le_of_ble_eq_true rfl⟩ rfl dX7_heal_1 ⟨Nat.le_refl _, Nat.le_refl _⟩ (fun H locs hw => ?_)
  refine lv_if_eq (tgt := 17) hx hb dX7_heal_4 (by decide) (fun h => absurd h (isReg_ok (by omega))) (fun _ => ?_)
  refine lv_iload_n hx hb dX7_heal_7 rfl (lv_at hl 2 rfl) ?_
  refine lv_iconst (v := 0) hx hb dX7_heal_8 (by decide) ?_
  refine lv_bipush (v := 7) hx hb dX7_heal_9 (by decide) ?_
  refine r_callS X hw (ws' := mW D L (s, pa, nI P, 0, S4)) (As := [.int (nI k), .int 0, .int 7]) (rest := []) lk_X7_45 (c_X7_in l D _ (nI k) 0 7) Foc.nil rfl hl.1 (Nat.le_of_ble_eq_true rfl) ⟨Nat.le_of_ble_eq_true rfl, Nat.le_of_ble_eq_true rfl⟩ rfl dX7_heal_11 ⟨Nat.le_refl _, Nat.le_refl _⟩ (fun H locs hw => ?_)
  refine lv_if_ne (tgt := 20) hx hb dX7_heal_14 (by decide) (fun _ => ?_) (fun h => absurd h (in_ok k 7 (by omega) (by decide)))
  refine lv_aload_n hx hb dX7_heal_20 rfl (lv_at hl 0 rfl) ?_
  refine r_get X hw (v := .ref (L 1)) fl_X7_7 (m_at 0 rfl) rfl dX7_heal_21 ?_
  refine lv_bipush (v := 7) hx hb dX7_heal_24 (by decide) ?_
  refine lv_iload_n hx hb dX7_heal_26 rfl (lv_at hl 1 rfl) ?_
  refine r_addN hx hb 7 r rfl rfl dX7_heal_27 ?_
  refine r_iald X hw (f := s) (7 + r) (m_at 1 rfl) rfl (by omega) (by decide) dX7_heal_28 ?_
  refine lv_iload_n hx hb dX7_heal_29 rfl (lv_at hl 2 rfl) ?_
  refine lv_ishr hx hb dX7_heal_30 ?_
  refine lv_iconst (v := 1) hx hb dX7_heal_31 (by decide) ?_
  refine lv_iand hx hb dX7_heal_32 ?_
  refine lv_if_ne (tgt := 39) hx hb dX7_heal_33 (by decide) (fun _ => ?_) (fun h => absurd h hc)
  refine lv_aload_n hx hb dX7_heal_39 rfl (lv_at hl 0 rfl) ?_
  refine r_callVv X hw (ws' := mW D L (s, (pushR s pa P).1, nI (pushR s pa P).2, 0, S4)) (As := []) (rest := []) lk_X7_107 (c_X7_changes0 l D _ L s pa P 0 S4 (by omega)) Foc.all (m_at 0 rfl) rfl hl.1 (Nat.le_of_ble_eq_true rfl) ⟨Nat.le_of_ble_eq_true rfl, Nat.le_of_ble_eq_true rfl⟩ rfl dX7_heal_40 ⟨Nat.le_refl _, Nat.le_refl _⟩ (fun H locs hw => ?_)
  refine lv_aload_n hx hb dX7_heal_43 rfl (lv_at hl 0 rfl) ?_
  refine r_get X hw (v := .ref (L 1)) fl_X7_7 (m_at 0 rfl) rfl dX7_heal_44 ?_
  refine lv_bipush (v := 7) hx hb dX7_heal_47 (by decide) ?_
  refine lv_iload_n hx hb dX7_heal_49 rfl (lv_at hl 1 rfl) ?_
  refine r_addN hx hb 7 r rfl rfl dX7_heal_50 ?_
  refine lv_dup2_11 hx hb dX7_heal_51 rfl rfl ?_
  refine r_iald X hw (f := s) (7 + r) (m_at 1 rfl) rfl (by omega) (by decide) dX7_heal_52 ?_
  refine lv_iconst (v := 1) hx hb dX7_heal_53 (by decide) ?_
  refine lv_iload_n hx hb dX7_heal_54 rfl (lv_at hl 2 rfl) ?_
  refine lv_ishl hx hb dX7_heal_55 ?_
  refine lv_isub hx hb dX7_heal_56 ?_
  refine r_iast X hw (ws' := mW D L (upd s (7 + r) ((s (7 + r)) - ((1 : Int32) <<< ((nI k) &&& 31))), (pushR s pa P).1, nI (pushR s pa P).2, 0, S4)) (7 + r) rfl (by omega) (by decide) (Foc.cell 1 rfl rfl rfl) dX7_heal_57 (fun H locs hw => ?_)
  refine lv_aload_n hx hb dX7_heal_58 rfl (lv_at hl 0 rfl) ?_
  refine r_callV X hw (ws' := mW D L (upd s (7 + r) ((s (7 + r)) - ((1 : Int32) <<< ((nI k) &&& 31))), (pushR s pa P).1, nI (pushR s pa P).2, 0, S4)) (As := []) (rest := []) lk_X7_147 (c_X7_failed l D _ L (upd s (7 + r) ((s (7 + r)) - ((1 : Int32) <<< ((nI k) &&& 31)))) ((pushR s pa P).1, nI (pushR s pa P).2, 0, S4) hbad) Foc.all (m_at 0 rfl) rfl hl.1 (Nat.le_of_ble_eq_true rfl) ⟨Nat.le_of_ble_eq_true rfl, Nat.le_of_ble_eq_true rfl⟩ rfl dX7_heal_59 ⟨Nat.le_refl _, Nat.le_refl _⟩ (fun H locs hw => ?_)
  exact r_ret X hw hk hret rfl (rfl) (rfl) dX7_heal_62

set_option maxRecDepth 100000 in
set_option maxHeartbeats 4000000 in
theorem c_X7_heal_np (l : Launch) (D : va_G) (sz : Nat) (L : Nat → Nat) (s : Row) (S2 : MT) (r k : Nat) (hr : r < 7) (hk : k < 8) (hc : (s (7 + r) >>> (nI k &&& 31)) &&& 1 = 0) : MI l yX7_heal cX7_heal 3 (some .int) 2 42 D sz [.ref (L 0), .int (nI r), .int (nI k)] (mW D L (s, S2)) (-1000002) (mW D L (s, S2)) := by
  refine r_enterI (by decide) (Nat.le_of_ble_eq_true rfl) ?_
  intro p e st m args below meth c ls A X hret hk hw hl
  have X : CX D p m c cX7_heal 3 st args RX7 A := X
  have hx := X.1.1
  have hb := X.1.2.1
  have hown := X.1.2.2.2.1
  have hts := X.1.2.2.2.2
  have hl : lv_has ls 3 [(0, .ref (L 0)), (1, .int (nI r)), (2, .int (nI k))] := hl
  refine lv_iload_n hx hb dX7_heal_0 rfl (lv_at hl 1 rfl) ?_
  refine r_callS X hw (ws' := mW D L (s, S2)) (As := [.int (nI r)]) (rest := []) lk_X7_103 (c_X7_isRegister l D _ (nI r)) Foc.nil rfl hl.1 (Nat.le_of_ble_eq_true rfl) ⟨Nat.le_of_ble_eq_true rfl, Nat.le_of_ble_eq_true rfl⟩ rfl dX7_heal_1 ⟨Nat.le_refl _, Nat.le_refl _⟩ (fun H locs hw => ?_)
  refine lv_if_eq (tgt := 17) hx hb dX7_heal_4 (by decide) (fun h => absurd h (isReg_ok (by omega))) (fun _ => ?_)
  refine lv_iload_n hx hb dX7_heal_7 rfl (lv_at hl 2 rfl) ?_
  refine lv_iconst (v := 0) hx hb dX7_heal_8 (by decide) ?_
  refine lv_bipush (v := 7) hx hb dX7_heal_9 (by decide) ?_
  refine r_callS X hw (ws' := mW D L (s, S2)) (As := [.int (nI k), .int 0, .int 7]) (rest := []) lk_X7_45 (c_X7_in l D _ (nI k) 0 7) Foc.nil rfl hl.1 (Nat.le_of_ble_eq_true rfl) ⟨Nat.le_of_ble_eq_true rfl, Nat.le_of_ble_eq_true rfl⟩ rfl dX7_heal_11 ⟨Nat.le_refl _, Nat.le_refl _⟩ (fun H locs hw => ?_)
  refine lv_if_ne (tgt := 20) hx hb dX7_heal_14 (by decide) (fun _ => ?_) (fun h => absurd h (in_ok k 7 (by omega) (by decide)))
  refine lv_aload_n hx hb dX7_heal_20 rfl (lv_at hl 0 rfl) ?_
  refine r_get X hw (v := .ref (L 1)) fl_X7_7 (m_at 0 rfl) rfl dX7_heal_21 ?_
  refine lv_bipush (v := 7) hx hb dX7_heal_24 (by decide) ?_
  refine lv_iload_n hx hb dX7_heal_26 rfl (lv_at hl 1 rfl) ?_
  refine r_addN hx hb 7 r rfl rfl dX7_heal_27 ?_
  refine r_iald X hw (f := s) (7 + r) (m_at 1 rfl) rfl (by omega) (by decide) dX7_heal_28 ?_
  refine lv_iload_n hx hb dX7_heal_29 rfl (lv_at hl 2 rfl) ?_
  refine lv_ishr hx hb dX7_heal_30 ?_
  refine lv_iconst (v := 1) hx hb dX7_heal_31 (by decide) ?_
  refine lv_iand hx hb dX7_heal_32 ?_
  refine lv_if_ne (tgt := 39) hx hb dX7_heal_33 (by decide) (fun h => absurd hc h) (fun _ => ?_)
  refine lv_ldc (v := (-1000002)) hx hb hown (hts _ kc_X7_146) dX7_heal_36 ?_
  exact r_ret X hw hk hret rfl rfl rfl dX7_heal_38

set_option maxRecDepth 100000 in
set_option maxHeartbeats 4000000 in
theorem c_X7_heal_bad (l : Launch) (D : va_G) (sz : Nat) (L : Nat → Nat) (S : MSt) (a1 a2 : Int32) (hbad : ¬ ((¬ sp_X7_isRegister a1 = 0) ∧ ¬ sp_X7_in a2 0 7 = 0)) : MI l yX7_heal cX7_heal 3 (some .int) 2 42 D sz [.ref (L 0), .int a1, .int a2] (mW D L S) (-1000001) (mW D L S) := by
  refine r_enterI (by decide) (Nat.le_of_ble_eq_true rfl) ?_
  intro p e st m args below meth c ls A X hret hk hw hl
  have X : CX D p m c cX7_heal 3 st args RX7 A := X
  have hx := X.1.1
  have hb := X.1.2.1
  have hown := X.1.2.2.2.1
  have hts := X.1.2.2.2.2
  have hl : lv_has ls 3 [(0, .ref (L 0)), (1, .int a1), (2, .int a2)] := hl
  refine lv_iload_n hx hb dX7_heal_0 rfl (lv_at hl 1 rfl) ?_
  refine r_callS X hw (ws' := mW D L S) (As := [.int a1]) (rest := []) lk_X7_103 (c_X7_isRegister l D _ a1) Foc.nil rfl hl.1 (Nat.le_of_ble_eq_true rfl) ⟨Nat.le_of_ble_eq_true rfl, Nat.le_of_ble_eq_true rfl⟩ rfl dX7_heal_1 ⟨Nat.le_refl _, Nat.le_refl _⟩ (fun H locs hw => ?_)
  refine lv_if_eq (tgt := 17) hx hb dX7_heal_4 (by decide) (fun c1 => ?_) (fun c1 => ?_)
  · skip
    refine lv_ldc (v := (-1000001)) hx hb hown (hts _ kc_X7_106) dX7_heal_17 ?_
    exact r_ret X hw hk hret rfl rfl rfl dX7_heal_19
  · skip
    refine lv_iload_n hx hb dX7_heal_7 rfl (lv_at hl 2 rfl) ?_
    refine lv_iconst (v := 0) hx hb dX7_heal_8 (by decide) ?_
    refine lv_bipush (v := 7) hx hb dX7_heal_9 (by decide) ?_
    refine r_callS X hw (ws' := mW D L S) (As := [.int a2, .int 0, .int 7]) (rest := []) lk_X7_45 (c_X7_in l D _ a2 0 7) Foc.nil rfl hl.1 (Nat.le_of_ble_eq_true rfl) ⟨Nat.le_of_ble_eq_true rfl, Nat.le_of_ble_eq_true rfl⟩ rfl dX7_heal_11 ⟨Nat.le_refl _, Nat.le_refl _⟩ (fun H locs hw => ?_)
    refine lv_if_ne (tgt := 20) hx hb dX7_heal_14 (by decide) (fun c2 => ?_) (fun c2 => ?_)
    · skip
      exact absurd ⟨c1, c2⟩ hbad
    · skip
      refine lv_ldc (v := (-1000001)) hx hb hown (hts _ kc_X7_106) dX7_heal_17 ?_
      exact r_ret X hw hk hret rfl rfl rfl dX7_heal_19
end
