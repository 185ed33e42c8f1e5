/-! by program: what each instruction links, out of the tables -/
theorem ui_X0 : ∀ w, w ∈ u_ws RX0 TX0 5 → w ∈ lw_all := ui_of [111, 113, 115, 117, 119] (by decide +kernel) (by decide +kernel)
theorem ui_X1 : ∀ w, w ∈ u_ws RX1 TX1 4 → w ∈ lw_all := ui_of [199, 201, 203, 205] (by decide +kernel) (by decide +kernel)
theorem ui_X2 : ∀ w, w ∈ u_ws RX2 TX2 3 → w ∈ lw_all := ui_of [133, 135, 137] (by decide +kernel) (by decide +kernel)
theorem ui_X3 : ∀ w, w ∈ u_ws RX3 TX3 11 → w ∈ lw_all := ui_of [164, 166, 168, 170, 172, 174, 176, 178, 180, 182, 184] (by decide +kernel) (by decide +kernel)
theorem ui_X4 : ∀ w, w ∈ u_ws RX4 TX4 4 → w ∈ lw_all := ui_of [222, 224, 226, 228] (by decide +kernel) (by decide +kernel)
theorem ui_X5 : ∀ w, w ∈ u_ws RX5 TX5 4 → w ∈ lw_all := ui_of [83, 85, 87, 89] (by decide +kernel) (by decide +kernel)
theorem ui_X6 : ∀ w, w ∈ u_ws RX6 TX6 8 → w ∈ lw_all := ui_of [240, 242, 244, 246, 248, 250, 252, 254] (by decide +kernel) (by decide +kernel)
theorem ui_X7 : ∀ w, w ∈ u_ws RX7 TX7 19 → w ∈ lw_all := ui_of [640, 642, 644, 646, 648, 650, 652, 654, 656, 658, 660, 662, 664, 666, 668, 670, 672, 674, 676] (by decide +kernel) (by decide +kernel)
theorem fw_X0_11 : Cond.fieldLink RX0 11 (TX0 0).1 (TX0 0).2.1 (TX0 0).2.2.1 ∈ lw_all := in_all 101 (by decide +kernel) rfl
theorem fl_X0_11 : FL RX0 11 0 0 := ⟨RX0, TX0, 5, ui_X0, rfl, by decide, fw_X0_11⟩
theorem fp_X0_11 : FP RX0 11 0 0 (.array (.array .int)) true := ⟨RX0, TX0, 5, tyX0, ui_X0, rfl, by decide, fw_X0_11, tyX0_ok, nmX0, rfl, by decide +kernel, fun h => by first | rfl | cases h⟩
theorem fw_X0_16 : Cond.fieldLink RX0 16 (TX0 1).1 (TX0 1).2.1 (TX0 1).2.2.1 ∈ lw_all := in_all 103 (by decide +kernel) rfl
theorem fl_X0_16 : FL RX0 16 0 1 := ⟨RX0, TX0, 5, ui_X0, rfl, by decide, fw_X0_16⟩
theorem fp_X0_16 : FP RX0 16 0 1 (.array .int) true := ⟨RX0, TX0, 5, tyX0, ui_X0, rfl, by decide, fw_X0_16, tyX0_ok, nmX0, rfl, by decide +kernel, fun h => by first | rfl | cases h⟩
theorem fw_X0_20 : Cond.fieldLink RX0 20 (TX0 2).1 (TX0 2).2.1 (TX0 2).2.2.1 ∈ lw_all := in_all 105 (by decide +kernel) rfl
theorem fl_X0_20 : FL RX0 20 0 2 := ⟨RX0, TX0, 5, ui_X0, rfl, by decide, fw_X0_20⟩
theorem fp_X0_20 : FP RX0 20 0 2 (.array .int) true := ⟨RX0, TX0, 5, tyX0, ui_X0, rfl, by decide, fw_X0_20, tyX0_ok, nmX0, rfl, by decide +kernel, fun h => by first | rfl | cases h⟩
theorem fw_X0_29 : Cond.fieldLink RX0 29 (TX0 3).1 (TX0 3).2.1 (TX0 3).2.2.1 ∈ lw_all := in_all 107 (by decide +kernel) rfl
theorem fl_X0_29 : FL RX0 29 0 3 := ⟨RX0, TX0, 5, ui_X0, rfl, by decide, fw_X0_29⟩
theorem fp_X0_29 : FP RX0 29 0 3 .int false := ⟨RX0, TX0, 5, tyX0, ui_X0, rfl, by decide, fw_X0_29, tyX0_ok, nmX0, rfl, by decide +kernel, fun h => by first | rfl | cases h⟩
theorem fw_X0_33 : Cond.fieldLink RX0 33 (TX0 4).1 (TX0 4).2.1 (TX0 4).2.2.1 ∈ lw_all := in_all 109 (by decide +kernel) rfl
theorem fl_X0_33 : FL RX0 33 0 4 := ⟨RX0, TX0, 5, ui_X0, rfl, by decide, fw_X0_33⟩
theorem fp_X0_33 : FP RX0 33 0 4 .int false := ⟨RX0, TX0, 5, tyX0, ui_X0, rfl, by decide, fw_X0_33, tyX0_ok, nmX0, rfl, by decide +kernel, fun h => by first | rfl | cases h⟩
theorem fw_X0_40 : Cond.fieldLink RX0 40 (TX5 0).1 (TX5 0).2.1 (TX5 0).2.2.1 ∈ lw_all := in_all 76 (by decide +kernel) rfl
theorem fl_X0_40 : FL RX0 40 5 0 := ⟨RX5, TX5, 4, ui_X5, rfl, by decide, fw_X0_40⟩
theorem fw_X1_9 : Cond.fieldLink RX1 9 (TX1 0).1 (TX1 0).2.1 (TX1 0).2.2.1 ∈ lw_all := in_all 194 (by decide +kernel) rfl
theorem fl_X1_9 : FL RX1 9 1 0 := ⟨RX1, TX1, 4, ui_X1, rfl, by decide, fw_X1_9⟩
theorem fp_X1_9 : FP RX1 9 1 0 (.array .int) true := ⟨RX1, TX1, 4, tyX1, ui_X1, rfl, by decide, fw_X1_9, tyX1_ok, nmX1, rfl, by decide +kernel, fun h => by first | rfl | cases h⟩
theorem fw_X1_15 : Cond.fieldLink RX1 15 (TX1 1).1 (TX1 1).2.1 (TX1 1).2.2.1 ∈ lw_all := in_all 196 (by decide +kernel) rfl
theorem fl_X1_15 : FL RX1 15 1 1 := ⟨RX1, TX1, 4, ui_X1, rfl, by decide, fw_X1_15⟩
theorem fp_X1_15 : FP RX1 15 1 1 (.array .int) true := ⟨RX1, TX1, 4, tyX1, ui_X1, rfl, by decide, fw_X1_15, tyX1_ok, nmX1, rfl, by decide +kernel, fun h => by first | rfl | cases h⟩
theorem fw_X1_20 : Cond.fieldLink RX1 20 (TX1 2).1 (TX1 2).2.1 (TX1 2).2.2.1 ∈ lw_all := in_all 197 (by decide +kernel) rfl
theorem fl_X1_20 : FL RX1 20 1 2 := ⟨RX1, TX1, 4, ui_X1, rfl, by decide, fw_X1_20⟩
theorem fp_X1_20 : FP RX1 20 1 2 (.array (.array .int)) true := ⟨RX1, TX1, 4, tyX1, ui_X1, rfl, by decide, fw_X1_20, tyX1_ok, nmX1, rfl, by decide +kernel, fun h => by first | rfl | cases h⟩
theorem fw_X1_23 : Cond.fieldLink RX1 23 (TX3 0).1 (TX3 0).2.1 (TX3 0).2.2.1 ∈ lw_all := in_all 141 (by decide +kernel) rfl
theorem fl_X1_23 : FL RX1 23 3 0 := ⟨RX3, TX3, 11, ui_X3, rfl, by decide, fw_X1_23⟩
theorem fw_X1_33 : Cond.fieldLink RX1 33 (TX3 3).1 (TX3 3).2.1 (TX3 3).2.2.1 ∈ lw_all := in_all 148 (by decide +kernel) rfl
theorem fl_X1_33 : FL RX1 33 3 3 := ⟨RX3, TX3, 11, ui_X3, rfl, by decide, fw_X1_33⟩
theorem fw_X1_62 : Cond.fieldLink RX1 62 (TX1 3).1 (TX1 3).2.1 (TX1 3).2.2.1 ∈ lw_all := in_all 198 (by decide +kernel) rfl
theorem fl_X1_62 : FL RX1 62 1 3 := ⟨RX1, TX1, 4, ui_X1, rfl, by decide, fw_X1_62⟩
theorem fp_X1_62 : FP RX1 62 1 3 .int false := ⟨RX1, TX1, 4, tyX1, ui_X1, rfl, by decide, fw_X1_62, tyX1_ok, nmX1, rfl, by decide +kernel, fun h => by first | rfl | cases h⟩
theorem fw_X1_69 : Cond.fieldLink RX1 69 (TX5 0).1 (TX5 0).2.1 (TX5 0).2.2.1 ∈ lw_all := in_all 74 (by decide +kernel) rfl
theorem fl_X1_69 : FL RX1 69 5 0 := ⟨RX5, TX5, 4, ui_X5, rfl, by decide, fw_X1_69⟩
theorem fw_X2_11 : Cond.fieldLink RX2 11 (TX2 0).1 (TX2 0).2.1 (TX2 0).2.2.1 ∈ lw_all := in_all 129 (by decide +kernel) rfl
theorem fl_X2_11 : FL RX2 11 2 0 := ⟨RX2, TX2, 3, ui_X2, rfl, by decide, fw_X2_11⟩
theorem fp_X2_11 : FP RX2 11 2 0 (.array (.array .int)) true := ⟨RX2, TX2, 3, tyX2, ui_X2, rfl, by decide, fw_X2_11, tyX2_ok, nmX2, rfl, by decide +kernel, fun h => by first | rfl | cases h⟩
theorem fw_X2_22 : Cond.fieldLink RX2 22 (TX2 1).1 (TX2 1).2.1 (TX2 1).2.2.1 ∈ lw_all := in_all 130 (by decide +kernel) rfl
theorem fl_X2_22 : FL RX2 22 2 1 := ⟨RX2, TX2, 3, ui_X2, rfl, by decide, fw_X2_22⟩
theorem fp_X2_22 : FP RX2 22 2 1 .int false := ⟨RX2, TX2, 3, tyX2, ui_X2, rfl, by decide, fw_X2_22, tyX2_ok, nmX2, rfl, by decide +kernel, fun h => by first | rfl | cases h⟩
theorem fw_X2_26 : Cond.fieldLink RX2 26 (TX2 2).1 (TX2 2).2.1 (TX2 2).2.2.1 ∈ lw_all := in_all 131 (by decide +kernel) rfl
theorem fl_X2_26 : FL RX2 26 2 2 := ⟨RX2, TX2, 3, ui_X2, rfl, by decide, fw_X2_26⟩
theorem fp_X2_26 : FP RX2 26 2 2 .int false := ⟨RX2, TX2, 3, tyX2, ui_X2, rfl, by decide, fw_X2_26, tyX2_ok, nmX2, rfl, by decide +kernel, fun h => by first | rfl | cases h⟩
theorem fw_X3_12 : Cond.fieldLink RX3 12 (TX3 0).1 (TX3 0).2.1 (TX3 0).2.2.1 ∈ lw_all := in_all 140 (by decide +kernel) rfl
theorem fl_X3_12 : FL RX3 12 3 0 := ⟨RX3, TX3, 11, ui_X3, rfl, by decide, fw_X3_12⟩
theorem fp_X3_12 : FP RX3 12 3 0 (.object "RollingDigits$Registers") true := ⟨RX3, TX3, 11, tyX3, ui_X3, rfl, by decide, fw_X3_12, tyX3_ok, nmX3, rfl, by decide +kernel, fun h => by first | rfl | cases h⟩
theorem fw_X3_21 : Cond.fieldLink RX3 21 (TX3 1).1 (TX3 1).2.1 (TX3 1).2.2.1 ∈ lw_all := in_all 143 (by decide +kernel) rfl
theorem fl_X3_21 : FL RX3 21 3 1 := ⟨RX3, TX3, 11, ui_X3, rfl, by decide, fw_X3_21⟩
theorem fp_X3_21 : FP RX3 21 3 1 (.object "RollingDigits$Alarms") true := ⟨RX3, TX3, 11, tyX3, ui_X3, rfl, by decide, fw_X3_21, tyX3_ok, nmX3, rfl, by decide +kernel, fun h => by first | rfl | cases h⟩
theorem fw_X3_28 : Cond.fieldLink RX3 28 (TX3 2).1 (TX3 2).2.1 (TX3 2).2.2.1 ∈ lw_all := in_all 145 (by decide +kernel) rfl
theorem fl_X3_28 : FL RX3 28 3 2 := ⟨RX3, TX3, 11, ui_X3, rfl, by decide, fw_X3_28⟩
theorem fp_X3_28 : FP RX3 28 3 2 (.object "RollingDigits$BurstLog") true := ⟨RX3, TX3, 11, tyX3, ui_X3, rfl, by decide, fw_X3_28, tyX3_ok, nmX3, rfl, by decide +kernel, fun h => by first | rfl | cases h⟩
theorem fw_X3_32 : Cond.fieldLink RX3 32 (TX3 3).1 (TX3 3).2.1 (TX3 3).2.2.1 ∈ lw_all := in_all 147 (by decide +kernel) rfl
theorem fl_X3_32 : FL RX3 32 3 3 := ⟨RX3, TX3, 11, ui_X3, rfl, by decide, fw_X3_32⟩
theorem fp_X3_32 : FP RX3 32 3 3 (.array .int) true := ⟨RX3, TX3, 11, tyX3, ui_X3, rfl, by decide, fw_X3_32, tyX3_ok, nmX3, rfl, by decide +kernel, fun h => by first | rfl | cases h⟩
theorem fw_X3_52 : Cond.fieldLink RX3 52 (TX3 4).1 (TX3 4).2.1 (TX3 4).2.2.1 ∈ lw_all := in_all 150 (by decide +kernel) rfl
theorem fl_X3_52 : FL RX3 52 3 4 := ⟨RX3, TX3, 11, ui_X3, rfl, by decide, fw_X3_52⟩
theorem fp_X3_52 : FP RX3 52 3 4 .int false := ⟨RX3, TX3, 11, tyX3, ui_X3, rfl, by decide, fw_X3_52, tyX3_ok, nmX3, rfl, by decide +kernel, fun h => by first | rfl | cases h⟩
theorem fw_X3_56 : Cond.fieldLink RX3 56 (TX3 5).1 (TX3 5).2.1 (TX3 5).2.2.1 ∈ lw_all := in_all 152 (by decide +kernel) rfl
theorem fl_X3_56 : FL RX3 56 3 5 := ⟨RX3, TX3, 11, ui_X3, rfl, by decide, fw_X3_56⟩
theorem fp_X3_56 : FP RX3 56 3 5 .int false := ⟨RX3, TX3, 11, tyX3, ui_X3, rfl, by decide, fw_X3_56, tyX3_ok, nmX3, rfl, by decide +kernel, fun h => by first | rfl | cases h⟩
theorem fw_X3_59 : Cond.fieldLink RX3 59 (TX3 6).1 (TX3 6).2.1 (TX3 6).2.2.1 ∈ lw_all := in_all 154 (by decide +kernel) rfl
theorem fl_X3_59 : FL RX3 59 3 6 := ⟨RX3, TX3, 11, ui_X3, rfl, by decide, fw_X3_59⟩
theorem fp_X3_59 : FP RX3 59 3 6 .int false := ⟨RX3, TX3, 11, tyX3, ui_X3, rfl, by decide, fw_X3_59, tyX3_ok, nmX3, rfl, by decide +kernel, fun h => by first | rfl | cases h⟩
theorem fw_X3_62 : Cond.fieldLink RX3 62 (TX3 7).1 (TX3 7).2.1 (TX3 7).2.2.1 ∈ lw_all := in_all 156 (by decide +kernel) rfl
theorem fl_X3_62 : FL RX3 62 3 7 := ⟨RX3, TX3, 11, ui_X3, rfl, by decide, fw_X3_62⟩
theorem fp_X3_62 : FP RX3 62 3 7 .int false := ⟨RX3, TX3, 11, tyX3, ui_X3, rfl, by decide, fw_X3_62, tyX3_ok, nmX3, rfl, by decide +kernel, fun h => by first | rfl | cases h⟩
theorem fw_X3_65 : Cond.fieldLink RX3 65 (TX3 8).1 (TX3 8).2.1 (TX3 8).2.2.1 ∈ lw_all := in_all 158 (by decide +kernel) rfl
theorem fl_X3_65 : FL RX3 65 3 8 := ⟨RX3, TX3, 11, ui_X3, rfl, by decide, fw_X3_65⟩
theorem fp_X3_65 : FP RX3 65 3 8 .int false := ⟨RX3, TX3, 11, tyX3, ui_X3, rfl, by decide, fw_X3_65, tyX3_ok, nmX3, rfl, by decide +kernel, fun h => by first | rfl | cases h⟩
theorem fw_X3_68 : Cond.fieldLink RX3 68 (TX3 9).1 (TX3 9).2.1 (TX3 9).2.2.1 ∈ lw_all := in_all 160 (by decide +kernel) rfl
theorem fl_X3_68 : FL RX3 68 3 9 := ⟨RX3, TX3, 11, ui_X3, rfl, by decide, fw_X3_68⟩
theorem fp_X3_68 : FP RX3 68 3 9 .int false := ⟨RX3, TX3, 11, tyX3, ui_X3, rfl, by decide, fw_X3_68, tyX3_ok, nmX3, rfl, by decide +kernel, fun h => by first | rfl | cases h⟩
theorem fw_X3_71 : Cond.fieldLink RX3 71 (TX3 10).1 (TX3 10).2.1 (TX3 10).2.2.1 ∈ lw_all := in_all 162 (by decide +kernel) rfl
theorem fl_X3_71 : FL RX3 71 3 10 := ⟨RX3, TX3, 11, ui_X3, rfl, by decide, fw_X3_71⟩
theorem fp_X3_71 : FP RX3 71 3 10 .int false := ⟨RX3, TX3, 11, tyX3, ui_X3, rfl, by decide, fw_X3_71, tyX3_ok, nmX3, rfl, by decide +kernel, fun h => by first | rfl | cases h⟩
theorem fw_X3_84 : Cond.fieldLink RX3 84 (TX5 0).1 (TX5 0).2.1 (TX5 0).2.2.1 ∈ lw_all := in_all 75 (by decide +kernel) rfl
theorem fl_X3_84 : FL RX3 84 5 0 := ⟨RX5, TX5, 4, ui_X5, rfl, by decide, fw_X3_84⟩
theorem fw_X4_9 : Cond.fieldLink RX4 9 (TX4 0).1 (TX4 0).2.1 (TX4 0).2.2.1 ∈ lw_all := in_all 214 (by decide +kernel) rfl
theorem fl_X4_9 : FL RX4 9 4 0 := ⟨RX4, TX4, 4, ui_X4, rfl, by decide, fw_X4_9⟩
theorem fp_X4_9 : FP RX4 9 4 0 (.array .int) true := ⟨RX4, TX4, 4, tyX4, ui_X4, rfl, by decide, fw_X4_9, tyX4_ok, nmX4, rfl, by decide +kernel, fun h => by first | rfl | cases h⟩
theorem fw_X4_13 : Cond.fieldLink RX4 13 (TX4 1).1 (TX4 1).2.1 (TX4 1).2.2.1 ∈ lw_all := in_all 216 (by decide +kernel) rfl
theorem fl_X4_13 : FL RX4 13 4 1 := ⟨RX4, TX4, 4, ui_X4, rfl, by decide, fw_X4_13⟩
theorem fp_X4_13 : FP RX4 13 4 1 .char false := ⟨RX4, TX4, 4, tyX4, ui_X4, rfl, by decide, fw_X4_13, tyX4_ok, nmX4, rfl, by decide +kernel, fun h => by first | rfl | cases h⟩
theorem fw_X4_21 : Cond.fieldLink RX4 21 (TX4 2).1 (TX4 2).2.1 (TX4 2).2.2.1 ∈ lw_all := in_all 218 (by decide +kernel) rfl
theorem fl_X4_21 : FL RX4 21 4 2 := ⟨RX4, TX4, 4, ui_X4, rfl, by decide, fw_X4_21⟩
theorem fp_X4_21 : FP RX4 21 4 2 .boolean false := ⟨RX4, TX4, 4, tyX4, ui_X4, rfl, by decide, fw_X4_21, tyX4_ok, nmX4, rfl, by decide +kernel, fun h => by first | rfl | cases h⟩
theorem fw_X4_32 : Cond.fieldLink RX4 32 (TX4 3).1 (TX4 3).2.1 (TX4 3).2.2.1 ∈ lw_all := in_all 220 (by decide +kernel) rfl
theorem fp_X4_32 : FP RX4 32 4 3 .int false := ⟨RX4, TX4, 4, tyX4, ui_X4, rfl, by decide, fw_X4_32, tyX4_ok, nmX4, rfl, by decide +kernel, fun h => by first | rfl | cases h⟩
theorem fw_X5_9 : Cond.fieldLink RX5 9 (TX5 0).1 (TX5 0).2.1 (TX5 0).2.2.1 ∈ lw_all := in_all 73 (by decide +kernel) rfl
theorem fl_X5_9 : FL RX5 9 5 0 := ⟨RX5, TX5, 4, ui_X5, rfl, by decide, fw_X5_9⟩
theorem fp_X5_9 : FP RX5 9 5 0 (.array .int) true := ⟨RX5, TX5, 4, tyX5, ui_X5, rfl, by decide, fw_X5_9, tyX5_ok, nmX5, rfl, by decide +kernel, fun h => by first | rfl | cases h⟩
theorem fw_X5_15 : Cond.fieldLink RX5 15 (TX5 1).1 (TX5 1).2.1 (TX5 1).2.2.1 ∈ lw_all := in_all 78 (by decide +kernel) rfl
theorem fl_X5_15 : FL RX5 15 5 1 := ⟨RX5, TX5, 4, ui_X5, rfl, by decide, fw_X5_15⟩
theorem fp_X5_15 : FP RX5 15 5 1 (.array .int) true := ⟨RX5, TX5, 4, tyX5, ui_X5, rfl, by decide, fw_X5_15, tyX5_ok, nmX5, rfl, by decide +kernel, fun h => by first | rfl | cases h⟩
theorem fw_X5_18 : Cond.fieldLink RX5 18 (TX5 2).1 (TX5 2).2.1 (TX5 2).2.2.1 ∈ lw_all := in_all 80 (by decide +kernel) rfl
theorem fl_X5_18 : FL RX5 18 5 2 := ⟨RX5, TX5, 4, ui_X5, rfl, by decide, fw_X5_18⟩
theorem fp_X5_18 : FP RX5 18 5 2 (.array .int) true := ⟨RX5, TX5, 4, tyX5, ui_X5, rfl, by decide, fw_X5_18, tyX5_ok, nmX5, rfl, by decide +kernel, fun h => by first | rfl | cases h⟩
theorem fw_X5_21 : Cond.fieldLink RX5 21 (TX5 3).1 (TX5 3).2.1 (TX5 3).2.2.1 ∈ lw_all := in_all 81 (by decide +kernel) rfl
theorem fl_X5_21 : FL RX5 21 5 3 := ⟨RX5, TX5, 4, ui_X5, rfl, by decide, fw_X5_21⟩
theorem fp_X5_21 : FP RX5 21 5 3 (.array .int) true := ⟨RX5, TX5, 4, tyX5, ui_X5, rfl, by decide, fw_X5_21, tyX5_ok, nmX5, rfl, by decide +kernel, fun h => by first | rfl | cases h⟩
theorem fw_X6_10 : Cond.fieldLink RX6 10 (TX6 0).1 (TX6 0).2.1 (TX6 0).2.2.1 ∈ lw_all := in_all 232 (by decide +kernel) rfl
theorem fl_X6_10 : FL RX6 10 6 0 := ⟨RX6, TX6, 8, ui_X6, rfl, by decide, fw_X6_10⟩
theorem fp_X6_10 : FP RX6 10 6 0 (.object "RollingDigits$Chip") true := ⟨RX6, TX6, 8, tyX6, ui_X6, rfl, by decide, fw_X6_10, tyX6_ok, nmX6, rfl, by decide +kernel, fun h => by first | rfl | cases h⟩
theorem fw_X6_16 : Cond.fieldLink RX6 16 (TX6 1).1 (TX6 1).2.1 (TX6 1).2.2.1 ∈ lw_all := in_all 233 (by decide +kernel) rfl
theorem fl_X6_16 : FL RX6 16 6 1 := ⟨RX6, TX6, 8, ui_X6, rfl, by decide, fw_X6_16⟩
theorem fp_X6_16 : FP RX6 16 6 1 (.object "RollingDigits$Chip") true := ⟨RX6, TX6, 8, tyX6, ui_X6, rfl, by decide, fw_X6_16, tyX6_ok, nmX6, rfl, by decide +kernel, fun h => by first | rfl | cases h⟩
theorem fw_X6_22 : Cond.fieldLink RX6 22 (TX6 2).1 (TX6 2).2.1 (TX6 2).2.2.1 ∈ lw_all := in_all 234 (by decide +kernel) rfl
theorem fl_X6_22 : FL RX6 22 6 2 := ⟨RX6, TX6, 8, ui_X6, rfl, by decide, fw_X6_22⟩
theorem fp_X6_22 : FP RX6 22 6 2 (.object "RollingDigits$Burst") true := ⟨RX6, TX6, 8, tyX6, ui_X6, rfl, by decide, fw_X6_22, tyX6_ok, nmX6, rfl, by decide +kernel, fun h => by first | rfl | cases h⟩
theorem fw_X6_29 : Cond.fieldLink RX6 29 (TX6 3).1 (TX6 3).2.1 (TX6 3).2.2.1 ∈ lw_all := in_all 235 (by decide +kernel) rfl
theorem fl_X6_29 : FL RX6 29 6 3 := ⟨RX6, TX6, 8, ui_X6, rfl, by decide, fw_X6_29⟩
theorem fp_X6_29 : FP RX6 29 6 3 (.object "RollingDigits$Order") true := ⟨RX6, TX6, 8, tyX6, ui_X6, rfl, by decide, fw_X6_29, tyX6_ok, nmX6, rfl, by decide +kernel, fun h => by first | rfl | cases h⟩
theorem fw_X6_33 : Cond.fieldLink RX6 33 (TX6 4).1 (TX6 4).2.1 (TX6 4).2.2.1 ∈ lw_all := in_all 236 (by decide +kernel) rfl
theorem fl_X6_33 : FL RX6 33 6 4 := ⟨RX6, TX6, 8, ui_X6, rfl, by decide, fw_X6_33⟩
theorem fp_X6_33 : FP RX6 33 6 4 (.array (.object "RollingDigits$Chip")) true := ⟨RX6, TX6, 8, tyX6, ui_X6, rfl, by decide, fw_X6_33, tyX6_ok, nmX6, rfl, by decide +kernel, fun h => by first | rfl | cases h⟩
theorem fw_X6_37 : Cond.fieldLink RX6 37 (TX6 6).1 (TX6 6).2.1 (TX6 6).2.2.1 ∈ lw_all := in_all 238 (by decide +kernel) rfl
theorem fl_X6_37 : FL RX6 37 6 6 := ⟨RX6, TX6, 8, ui_X6, rfl, by decide, fw_X6_37⟩
theorem fp_X6_37 : FP RX6 37 6 6 (.array .char) true := ⟨RX6, TX6, 8, tyX6, ui_X6, rfl, by decide, fw_X6_37, tyX6_ok, nmX6, rfl, by decide +kernel, fun h => by first | rfl | cases h⟩
theorem fw_X6_68 : Cond.fieldLink RX6 68 (TX1 0).1 (TX1 0).2.1 (TX1 0).2.2.1 ∈ lw_all := in_all 195 (by decide +kernel) rfl
theorem fl_X6_68 : FL RX6 68 1 0 := ⟨RX1, TX1, 4, ui_X1, rfl, by decide, fw_X6_68⟩
theorem fw_X6_82 : Cond.fieldLink RX6 82 (TX3 1).1 (TX3 1).2.1 (TX3 1).2.2.1 ∈ lw_all := in_all 144 (by decide +kernel) rfl
theorem fl_X6_82 : FL RX6 82 3 1 := ⟨RX3, TX3, 11, ui_X3, rfl, by decide, fw_X6_82⟩
theorem fw_X6_101 : Cond.fieldLink RX6 101 (TX0 4).1 (TX0 4).2.1 (TX0 4).2.2.1 ∈ lw_all := in_all 110 (by decide +kernel) rfl
theorem fl_X6_101 : FL RX6 101 0 4 := ⟨RX0, TX0, 5, ui_X0, rfl, by decide, fw_X6_101⟩
theorem fp_X6_101 : FP RX6 101 0 4 .int false := ⟨RX0, TX0, 5, tyX0, ui_X0, rfl, by decide, fw_X6_101, tyX0_ok, nmX0, rfl, by decide +kernel, fun h => by first | rfl | cases h⟩
theorem fw_X6_108 : Cond.fieldLink RX6 108 (TX3 0).1 (TX3 0).2.1 (TX3 0).2.2.1 ∈ lw_all := in_all 142 (by decide +kernel) rfl
theorem fl_X6_108 : FL RX6 108 3 0 := ⟨RX3, TX3, 11, ui_X3, rfl, by decide, fw_X6_108⟩
theorem fw_X6_141 : Cond.fieldLink RX6 141 (TX5 0).1 (TX5 0).2.1 (TX5 0).2.2.1 ∈ lw_all := in_all 77 (by decide +kernel) rfl
theorem fl_X6_141 : FL RX6 141 5 0 := ⟨RX5, TX5, 4, ui_X5, rfl, by decide, fw_X6_141⟩
theorem fw_X6_150 : Cond.fieldLink RX6 150 (TX5 1).1 (TX5 1).2.1 (TX5 1).2.2.1 ∈ lw_all := in_all 79 (by decide +kernel) rfl
theorem fl_X6_150 : FL RX6 150 5 1 := ⟨RX5, TX5, 4, ui_X5, rfl, by decide, fw_X6_150⟩
theorem fw_X6_153 : Cond.fieldLink RX6 153 (TX5 3).1 (TX5 3).2.1 (TX5 3).2.2.1 ∈ lw_all := in_all 82 (by decide +kernel) rfl
theorem fl_X6_153 : FL RX6 153 5 3 := ⟨RX5, TX5, 4, ui_X5, rfl, by decide, fw_X6_153⟩
theorem fw_X6_162 : Cond.fieldLink RX6 162 (TX0 0).1 (TX0 0).2.1 (TX0 0).2.2.1 ∈ lw_all := in_all 102 (by decide +kernel) rfl
theorem fl_X6_162 : FL RX6 162 0 0 := ⟨RX0, TX0, 5, ui_X0, rfl, by decide, fw_X6_162⟩
theorem fw_X6_165 : Cond.fieldLink RX6 165 (TX0 1).1 (TX0 1).2.1 (TX0 1).2.2.1 ∈ lw_all := in_all 104 (by decide +kernel) rfl
theorem fl_X6_165 : FL RX6 165 0 1 := ⟨RX0, TX0, 5, ui_X0, rfl, by decide, fw_X6_165⟩
theorem fw_X6_168 : Cond.fieldLink RX6 168 (TX0 3).1 (TX0 3).2.1 (TX0 3).2.2.1 ∈ lw_all := in_all 108 (by decide +kernel) rfl
theorem fl_X6_168 : FL RX6 168 0 3 := ⟨RX0, TX0, 5, ui_X0, rfl, by decide, fw_X6_168⟩
theorem fw_X6_174 : Cond.fieldLink RX6 174 (TX0 2).1 (TX0 2).2.1 (TX0 2).2.2.1 ∈ lw_all := in_all 106 (by decide +kernel) rfl
theorem fl_X6_174 : FL RX6 174 0 2 := ⟨RX0, TX0, 5, ui_X0, rfl, by decide, fw_X6_174⟩
theorem fw_X6_198 : Cond.fieldLink RX6 198 (TX3 2).1 (TX3 2).2.1 (TX3 2).2.2.1 ∈ lw_all := in_all 146 (by decide +kernel) rfl
theorem fl_X6_198 : FL RX6 198 3 2 := ⟨RX3, TX3, 11, ui_X3, rfl, by decide, fw_X6_198⟩
theorem fw_X6_202 : Cond.fieldLink RX6 202 (TX2 2).1 (TX2 2).2.1 (TX2 2).2.2.1 ∈ lw_all := in_all 132 (by decide +kernel) rfl
theorem fl_X6_202 : FL RX6 202 2 2 := ⟨RX2, TX2, 3, ui_X2, rfl, by decide, fw_X6_202⟩
theorem fw_X6_210 : Cond.fieldLink RX6 210 (TX3 3).1 (TX3 3).2.1 (TX3 3).2.2.1 ∈ lw_all := in_all 149 (by decide +kernel) rfl
theorem fl_X6_210 : FL RX6 210 3 3 := ⟨RX3, TX3, 11, ui_X3, rfl, by decide, fw_X6_210⟩
theorem fw_X6_213 : Cond.fieldLink RX6 213 (TX3 4).1 (TX3 4).2.1 (TX3 4).2.2.1 ∈ lw_all := in_all 151 (by decide +kernel) rfl
theorem fl_X6_213 : FL RX6 213 3 4 := ⟨RX3, TX3, 11, ui_X3, rfl, by decide, fw_X6_213⟩
theorem fw_X6_226 : Cond.fieldLink RX6 226 (TX3 9).1 (TX3 9).2.1 (TX3 9).2.2.1 ∈ lw_all := in_all 161 (by decide +kernel) rfl
theorem fl_X6_226 : FL RX6 226 3 9 := ⟨RX3, TX3, 11, ui_X3, rfl, by decide, fw_X6_226⟩
theorem fw_X6_229 : Cond.fieldLink RX6 229 (TX3 10).1 (TX3 10).2.1 (TX3 10).2.2.1 ∈ lw_all := in_all 163 (by decide +kernel) rfl
theorem fl_X6_229 : FL RX6 229 3 10 := ⟨RX3, TX3, 11, ui_X3, rfl, by decide, fw_X6_229⟩
theorem fw_X6_236 : Cond.fieldLink RX6 236 (TX3 5).1 (TX3 5).2.1 (TX3 5).2.2.1 ∈ lw_all := in_all 153 (by decide +kernel) rfl
theorem fl_X6_236 : FL RX6 236 3 5 := ⟨RX3, TX3, 11, ui_X3, rfl, by decide, fw_X6_236⟩
theorem fw_X6_245 : Cond.fieldLink RX6 245 (TX3 7).1 (TX3 7).2.1 (TX3 7).2.2.1 ∈ lw_all := in_all 157 (by decide +kernel) rfl
theorem fl_X6_245 : FL RX6 245 3 7 := ⟨RX3, TX3, 11, ui_X3, rfl, by decide, fw_X6_245⟩
theorem fw_X6_248 : Cond.fieldLink RX6 248 (TX3 8).1 (TX3 8).2.1 (TX3 8).2.2.1 ∈ lw_all := in_all 159 (by decide +kernel) rfl
theorem fl_X6_248 : FL RX6 248 3 8 := ⟨RX3, TX3, 11, ui_X3, rfl, by decide, fw_X6_248⟩
theorem fw_X6_251 : Cond.fieldLink RX6 251 (TX3 6).1 (TX3 6).2.1 (TX3 6).2.2.1 ∈ lw_all := in_all 155 (by decide +kernel) rfl
theorem fl_X6_251 : FL RX6 251 3 6 := ⟨RX3, TX3, 11, ui_X3, rfl, by decide, fw_X6_251⟩
theorem fw_X6_254 : Cond.fieldLink RX6 254 (TX6 5).1 (TX6 5).2.1 (TX6 5).2.2.1 ∈ lw_all := in_all 237 (by decide +kernel) rfl
theorem fl_X6_254 : FL RX6 254 6 5 := ⟨RX6, TX6, 8, ui_X6, rfl, by decide, fw_X6_254⟩
theorem fp_X6_254 : FP RX6 254 6 5 .int false := ⟨RX6, TX6, 8, tyX6, ui_X6, rfl, by decide, fw_X6_254, tyX6_ok, nmX6, rfl, by decide +kernel, fun h => by first | rfl | cases h⟩
theorem fw_X6_257 : Cond.fieldLink RX6 257 (TX6 7).1 (TX6 7).2.1 (TX6 7).2.2.1 ∈ lw_all := in_all 239 (by decide +kernel) rfl
theorem fl_X6_257 : FL RX6 257 6 7 := ⟨RX6, TX6, 8, ui_X6, rfl, by decide, fw_X6_257⟩
theorem fp_X6_257 : FP RX6 257 6 7 .int false := ⟨RX6, TX6, 8, tyX6, ui_X6, rfl, by decide, fw_X6_257, tyX6_ok, nmX6, rfl, by decide +kernel, fun h => by first | rfl | cases h⟩
theorem fw_X6_264 : Cond.fieldLink RX6 264 (TX4 2).1 (TX4 2).2.1 (TX4 2).2.2.1 ∈ lw_all := in_all 219 (by decide +kernel) rfl
theorem fl_X6_264 : FL RX6 264 4 2 := ⟨RX4, TX4, 4, ui_X4, rfl, by decide, fw_X6_264⟩
theorem fw_X6_268 : Cond.fieldLink RX6 268 (TX4 3).1 (TX4 3).2.1 (TX4 3).2.2.1 ∈ lw_all := in_all 221 (by decide +kernel) rfl
theorem fl_X6_268 : FL RX6 268 4 3 := ⟨RX4, TX4, 4, ui_X4, rfl, by decide, fw_X6_268⟩
theorem fw_X6_275 : Cond.fieldLink RX6 275 (TX4 0).1 (TX4 0).2.1 (TX4 0).2.2.1 ∈ lw_all := in_all 215 (by decide +kernel) rfl
theorem fl_X6_275 : FL RX6 275 4 0 := ⟨RX4, TX4, 4, ui_X4, rfl, by decide, fw_X6_275⟩
theorem fw_X6_278 : Cond.fieldLink RX6 278 (TX4 1).1 (TX4 1).2.1 (TX4 1).2.2.1 ∈ lw_all := in_all 217 (by decide +kernel) rfl
theorem fl_X6_278 : FL RX6 278 4 1 := ⟨RX4, TX4, 4, ui_X4, rfl, by decide, fw_X6_278⟩
theorem fw_X7_7 : Cond.fieldLink RX7 7 (TX7 0).1 (TX7 0).2.1 (TX7 0).2.2.1 ∈ lw_all := in_all 621 (by decide +kernel) rfl
theorem fl_X7_7 : FL RX7 7 7 0 := ⟨RX7, TX7, 19, ui_X7, rfl, by decide, fw_X7_7⟩
theorem fp_X7_7 : FP RX7 7 7 0 (.array .int) true := ⟨RX7, TX7, 19, tyX7, ui_X7, rfl, by decide, fw_X7_7, tyX7_ok, nmX7, rfl, by decide +kernel, fun h => by first | rfl | cases h⟩
theorem fw_X7_13 : Cond.fieldLink RX7 13 (TX7 1).1 (TX7 1).2.1 (TX7 1).2.2.1 ∈ lw_all := in_all 622 (by decide +kernel) rfl
theorem fl_X7_13 : FL RX7 13 7 1 := ⟨RX7, TX7, 19, ui_X7, rfl, by decide, fw_X7_13⟩
theorem fp_X7_13 : FP RX7 13 7 1 (.array .int) true := ⟨RX7, TX7, 19, tyX7, ui_X7, rfl, by decide, fw_X7_13, tyX7_ok, nmX7, rfl, by decide +kernel, fun h => by first | rfl | cases h⟩
theorem fw_X7_16 : Cond.fieldLink RX7 16 (TX7 2).1 (TX7 2).2.1 (TX7 2).2.2.1 ∈ lw_all := in_all 623 (by decide +kernel) rfl
theorem fl_X7_16 : FL RX7 16 7 2 := ⟨RX7, TX7, 19, ui_X7, rfl, by decide, fw_X7_16⟩
theorem fp_X7_16 : FP RX7 16 7 2 (.array .int) true := ⟨RX7, TX7, 19, tyX7, ui_X7, rfl, by decide, fw_X7_16, tyX7_ok, nmX7, rfl, by decide +kernel, fun h => by first | rfl | cases h⟩
theorem fw_X7_19 : Cond.fieldLink RX7 19 (TX7 3).1 (TX7 3).2.1 (TX7 3).2.2.1 ∈ lw_all := in_all 624 (by decide +kernel) rfl
theorem fl_X7_19 : FL RX7 19 7 3 := ⟨RX7, TX7, 19, ui_X7, rfl, by decide, fw_X7_19⟩
theorem fp_X7_19 : FP RX7 19 7 3 (.array .int) true := ⟨RX7, TX7, 19, tyX7, ui_X7, rfl, by decide, fw_X7_19, tyX7_ok, nmX7, rfl, by decide +kernel, fun h => by first | rfl | cases h⟩
theorem fw_X7_22 : Cond.fieldLink RX7 22 (TX7 6).1 (TX7 6).2.1 (TX7 6).2.2.1 ∈ lw_all := in_all 627 (by decide +kernel) rfl
theorem fl_X7_22 : FL RX7 22 7 6 := ⟨RX7, TX7, 19, ui_X7, rfl, by decide, fw_X7_22⟩
theorem fp_X7_22 : FP RX7 22 7 6 (.array .int) true := ⟨RX7, TX7, 19, tyX7, ui_X7, rfl, by decide, fw_X7_22, tyX7_ok, nmX7, rfl, by decide +kernel, fun h => by first | rfl | cases h⟩
theorem fw_X7_25 : Cond.fieldLink RX7 25 (TX7 8).1 (TX7 8).2.1 (TX7 8).2.2.1 ∈ lw_all := in_all 629 (by decide +kernel) rfl
theorem fl_X7_25 : FL RX7 25 7 8 := ⟨RX7, TX7, 19, ui_X7, rfl, by decide, fw_X7_25⟩
theorem fp_X7_25 : FP RX7 25 7 8 (.array .int) true := ⟨RX7, TX7, 19, tyX7, ui_X7, rfl, by decide, fw_X7_25, tyX7_ok, nmX7, rfl, by decide +kernel, fun h => by first | rfl | cases h⟩
theorem fw_X7_28 : Cond.fieldLink RX7 28 (TX7 9).1 (TX7 9).2.1 (TX7 9).2.2.1 ∈ lw_all := in_all 630 (by decide +kernel) rfl
theorem fl_X7_28 : FL RX7 28 7 9 := ⟨RX7, TX7, 19, ui_X7, rfl, by decide, fw_X7_28⟩
theorem fp_X7_28 : FP RX7 28 7 9 (.array .int) true := ⟨RX7, TX7, 19, tyX7, ui_X7, rfl, by decide, fw_X7_28, tyX7_ok, nmX7, rfl, by decide +kernel, fun h => by first | rfl | cases h⟩
theorem fw_X7_31 : Cond.fieldLink RX7 31 (TX7 10).1 (TX7 10).2.1 (TX7 10).2.2.1 ∈ lw_all := in_all 631 (by decide +kernel) rfl
theorem fl_X7_31 : FL RX7 31 7 10 := ⟨RX7, TX7, 19, ui_X7, rfl, by decide, fw_X7_31⟩
theorem fp_X7_31 : FP RX7 31 7 10 (.array .int) true := ⟨RX7, TX7, 19, tyX7, ui_X7, rfl, by decide, fw_X7_31, tyX7_ok, nmX7, rfl, by decide +kernel, fun h => by first | rfl | cases h⟩
theorem fw_X7_34 : Cond.fieldLink RX7 34 (TX7 18).1 (TX7 18).2.1 (TX7 18).2.2.1 ∈ lw_all := in_all 639 (by decide +kernel) rfl
theorem fl_X7_34 : FL RX7 34 7 18 := ⟨RX7, TX7, 19, ui_X7, rfl, by decide, fw_X7_34⟩
theorem fp_X7_34 : FP RX7 34 7 18 (.array .int) true := ⟨RX7, TX7, 19, tyX7, ui_X7, rfl, by decide, fw_X7_34, tyX7_ok, nmX7, rfl, by decide +kernel, fun h => by first | rfl | cases h⟩
theorem fw_X7_37 : Cond.fieldLink RX7 37 (TX7 5).1 (TX7 5).2.1 (TX7 5).2.2.1 ∈ lw_all := in_all 626 (by decide +kernel) rfl
theorem fl_X7_37 : FL RX7 37 7 5 := ⟨RX7, TX7, 19, ui_X7, rfl, by decide, fw_X7_37⟩
theorem fp_X7_37 : FP RX7 37 7 5 .boolean false := ⟨RX7, TX7, 19, tyX7, ui_X7, rfl, by decide, fw_X7_37, tyX7_ok, nmX7, rfl, by decide +kernel, fun h => by first | rfl | cases h⟩
theorem fw_X7_41 : Cond.fieldLink RX7 41 (TX7 4).1 (TX7 4).2.1 (TX7 4).2.2.1 ∈ lw_all := in_all 625 (by decide +kernel) rfl
theorem fl_X7_41 : FL RX7 41 7 4 := ⟨RX7, TX7, 19, ui_X7, rfl, by decide, fw_X7_41⟩
theorem fp_X7_41 : FP RX7 41 7 4 .int false := ⟨RX7, TX7, 19, tyX7, ui_X7, rfl, by decide, fw_X7_41, tyX7_ok, nmX7, rfl, by decide +kernel, fun h => by first | rfl | cases h⟩
theorem fw_X7_114 : Cond.fieldLink RX7 114 (TX7 11).1 (TX7 11).2.1 (TX7 11).2.2.1 ∈ lw_all := in_all 632 (by decide +kernel) rfl
theorem fl_X7_114 : FL RX7 114 7 11 := ⟨RX7, TX7, 19, ui_X7, rfl, by decide, fw_X7_114⟩
theorem fp_X7_114 : FP RX7 114 7 11 .int false := ⟨RX7, TX7, 19, tyX7, ui_X7, rfl, by decide, fw_X7_114, tyX7_ok, nmX7, rfl, by decide +kernel, fun h => by first | rfl | cases h⟩
theorem fw_X7_173 : Cond.fieldLink RX7 173 (TX7 7).1 (TX7 7).2.1 (TX7 7).2.2.1 ∈ lw_all := in_all 628 (by decide +kernel) rfl
theorem fl_X7_173 : FL RX7 173 7 7 := ⟨RX7, TX7, 19, ui_X7, rfl, by decide, fw_X7_173⟩
theorem fp_X7_173 : FP RX7 173 7 7 .int false := ⟨RX7, TX7, 19, tyX7, ui_X7, rfl, by decide, fw_X7_173, tyX7_ok, nmX7, rfl, by decide +kernel, fun h => by first | rfl | cases h⟩
theorem fw_X7_177 : Cond.fieldLink RX7 177 (TX7 12).1 (TX7 12).2.1 (TX7 12).2.2.1 ∈ lw_all := in_all 633 (by decide +kernel) rfl
theorem fl_X7_177 : FL RX7 177 7 12 := ⟨RX7, TX7, 19, ui_X7, rfl, by decide, fw_X7_177⟩
theorem fp_X7_177 : FP RX7 177 7 12 .int false := ⟨RX7, TX7, 19, tyX7, ui_X7, rfl, by decide, fw_X7_177, tyX7_ok, nmX7, rfl, by decide +kernel, fun h => by first | rfl | cases h⟩
theorem fw_X7_184 : Cond.fieldLink RX7 184 (TX7 17).1 (TX7 17).2.1 (TX7 17).2.2.1 ∈ lw_all := in_all 638 (by decide +kernel) rfl
theorem fl_X7_184 : FL RX7 184 7 17 := ⟨RX7, TX7, 19, ui_X7, rfl, by decide, fw_X7_184⟩
theorem fp_X7_184 : FP RX7 184 7 17 .int false := ⟨RX7, TX7, 19, tyX7, ui_X7, rfl, by decide, fw_X7_184, tyX7_ok, nmX7, rfl, by decide +kernel, fun h => by first | rfl | cases h⟩
theorem fw_X7_216 : Cond.fieldLink RX7 216 (TX7 13).1 (TX7 13).2.1 (TX7 13).2.2.1 ∈ lw_all := in_all 634 (by decide +kernel) rfl
theorem fl_X7_216 : FL RX7 216 7 13 := ⟨RX7, TX7, 19, ui_X7, rfl, by decide, fw_X7_216⟩
theorem fp_X7_216 : FP RX7 216 7 13 .int false := ⟨RX7, TX7, 19, tyX7, ui_X7, rfl, by decide, fw_X7_216, tyX7_ok, nmX7, rfl, by decide +kernel, fun h => by first | rfl | cases h⟩
theorem fw_X7_219 : Cond.fieldLink RX7 219 (TX7 16).1 (TX7 16).2.1 (TX7 16).2.2.1 ∈ lw_all := in_all 637 (by decide +kernel) rfl
theorem fl_X7_219 : FL RX7 219 7 16 := ⟨RX7, TX7, 19, ui_X7, rfl, by decide, fw_X7_219⟩
theorem fp_X7_219 : FP RX7 219 7 16 .int false := ⟨RX7, TX7, 19, tyX7, ui_X7, rfl, by decide, fw_X7_219, tyX7_ok, nmX7, rfl, by decide +kernel, fun h => by first | rfl | cases h⟩
theorem fw_X7_228 : Cond.fieldLink RX7 228 (TX7 14).1 (TX7 14).2.1 (TX7 14).2.2.1 ∈ lw_all := in_all 635 (by decide +kernel) rfl
theorem fl_X7_228 : FL RX7 228 7 14 := ⟨RX7, TX7, 19, ui_X7, rfl, by decide, fw_X7_228⟩
theorem fp_X7_228 : FP RX7 228 7 14 .int false := ⟨RX7, TX7, 19, tyX7, ui_X7, rfl, by decide, fw_X7_228, tyX7_ok, nmX7, rfl, by decide +kernel, fun h => by first | rfl | cases h⟩
theorem fw_X7_231 : Cond.fieldLink RX7 231 (TX7 15).1 (TX7 15).2.1 (TX7 15).2.2.1 ∈ lw_all := in_all 636 (by decide +kernel) rfl
theorem fl_X7_231 : FL RX7 231 7 15 := ⟨RX7, TX7, 19, ui_X7, rfl, by decide, fw_X7_231⟩
theorem fp_X7_231 : FP RX7 231 7 15 .int false := ⟨RX7, TX7, 19, tyX7, ui_X7, rfl, by decide, fw_X7_231, tyX7_ok, nmX7, rfl, by decide +kernel, fun h => by first | rfl | cases h⟩
theorem kc_J6_265 : Cond.constant RJ6 265 (1431655765) ∈ lw_all := in_all 461 (by decide +kernel) rfl
theorem kc_J6_266 : Cond.constant RJ6 266 (858993459) ∈ lw_all := in_all 462 (by decide +kernel) rfl
theorem kc_J6_267 : Cond.constant RJ6 267 (252645135) ∈ lw_all := in_all 463 (by decide +kernel) rfl
theorem kc_Jxf58ca_77 : Cond.constant RJxf58ca 77 (2143289344) ∈ lw_all := in_all 899 (by decide +kernel) rfl
theorem kc_X6_45 : Cond.constant RX6 45 (-1000001) ∈ lw_all := in_all 271 (by decide +kernel) rfl
theorem kc_X6_117 : Cond.constant RX6 117 (-1000002) ∈ lw_all := in_all 441 (by decide +kernel) rfl
theorem kc_X6_185 : Cond.constant RX6 185 (-1000004) ∈ lw_all := in_all 505 (by decide +kernel) rfl
theorem kc_X6_260 : Cond.constant RX6 260 (-1000003) ∈ lw_all := in_all 582 (by decide +kernel) rfl
theorem kc_X6_286 : Cond.constantFloat RX6 286 (1258291200) ∈ lw_all := in_all 560 (by decide +kernel) rfl
theorem kc_X6_287 : Cond.constant RX6 287 (8388608) ∈ lw_all := in_all 561 (by decide +kernel) rfl
theorem kc_X7_106 : Cond.constant RX7 106 (-1000001) ∈ lw_all := in_all 689 (by decide +kernel) rfl
theorem kc_X7_113 : Cond.constant RX7 113 (-1000004) ∈ lw_all := in_all 763 (by decide +kernel) rfl
theorem kc_X7_146 : Cond.constant RX7 146 (-1000002) ∈ lw_all := in_all 823 (by decide +kernel) rfl
theorem kc_X7_176 : Cond.constant RX7 176 (-1000003) ∈ lw_all := in_all 916 (by decide +kernel) rfl
theorem lk_Jxf58ca_59 : LkS RJxf58ca 59 yJxf58ca_isNaN_12338 cJxf58ca_isNaN_12338 1 (some .boolean) 1 := ⟨⟨in_all 895 (by decide +kernel) rfl, in_all 47 (by decide +kernel) rfl, in_all 893 (by decide +kernel) rfl, by decide +kernel⟩, in_all 894 (by decide +kernel) rfl⟩
theorem lk_L_9 : LI RL 9 yX6_init cX6_init 2 0 := ⟨⟨in_all 52 (by decide +kernel) rfl, in_all 37 (by decide +kernel) rfl, in_all 50 (by decide +kernel) rfl, by decide +kernel⟩, rfl, in_all 51 (by decide +kernel) rfl⟩
theorem lk_L_12 : LI RL 12 yX7_init cX7_init 1 0 := ⟨⟨in_all 619 (by decide +kernel) rfl, in_all 45 (by decide +kernel) rfl, in_all 617 (by decide +kernel) rfl, by decide +kernel⟩, rfl, in_all 618 (by decide +kernel) rfl⟩
theorem lk_L_13 : LV RL 13 yX6_write cX6_write 3 (some .int) 2 6 := ⟨⟨in_all 261 (by decide +kernel) rfl, in_all 37 (by decide +kernel) rfl, in_all 258 (by decide +kernel) rfl, by decide +kernel⟩, in_all 259 (by decide +kernel) rfl, in_all 260 (by decide +kernel) rfl, TX6, 8, rfl⟩
theorem lk_L_17 : LV RL 17 yX7_write cX7_write 3 (some .int) 2 7 := ⟨⟨in_all 682 (by decide +kernel) rfl, in_all 45 (by decide +kernel) rfl, in_all 679 (by decide +kernel) rfl, by decide +kernel⟩, in_all 680 (by decide +kernel) rfl, in_all 681 (by decide +kernel) rfl, TX7, 19, rfl⟩
theorem lk_L_18 : LV RL 18 yX6_read cX6_read 2 (some .int) 1 6 := ⟨⟨in_all 306 (by decide +kernel) rfl, in_all 37 (by decide +kernel) rfl, in_all 303 (by decide +kernel) rfl, by decide +kernel⟩, in_all 304 (by decide +kernel) rfl, in_all 305 (by decide +kernel) rfl, TX6, 8, rfl⟩
theorem lk_L_22 : LV RL 22 yX7_read cX7_read 3 (some .int) 1 7 := ⟨⟨in_all 701 (by decide +kernel) rfl, in_all 45 (by decide +kernel) rfl, in_all 698 (by decide +kernel) rfl, by decide +kernel⟩, in_all 699 (by decide +kernel) rfl, in_all 700 (by decide +kernel) rfl, TX7, 19, rfl⟩
theorem lk_L_23 : LV RL 23 yX6_burst cX6_burst 2 (some .int) 1 6 := ⟨⟨in_all 356 (by decide +kernel) rfl, in_all 37 (by decide +kernel) rfl, in_all 353 (by decide +kernel) rfl, by decide +kernel⟩, in_all 354 (by decide +kernel) rfl, in_all 355 (by decide +kernel) rfl, TX6, 8, rfl⟩
theorem lk_L_26 : LV RL 26 yX7_burst cX7_burst 2 (some .int) 1 7 := ⟨⟨in_all 767 (by decide +kernel) rfl, in_all 45 (by decide +kernel) rfl, in_all 764 (by decide +kernel) rfl, by decide +kernel⟩, in_all 765 (by decide +kernel) rfl, in_all 766 (by decide +kernel) rfl, TX7, 19, rfl⟩
theorem lk_L_27 : LV RL 27 yX6_pass cX6_pass 2 (some .int) 1 6 := ⟨⟨in_all 398 (by decide +kernel) rfl, in_all 37 (by decide +kernel) rfl, in_all 395 (by decide +kernel) rfl, by decide +kernel⟩, in_all 396 (by decide +kernel) rfl, in_all 397 (by decide +kernel) rfl, TX6, 8, rfl⟩
theorem lk_L_30 : LV RL 30 yX7_pass cX7_pass 2 (some .int) 1 7 := ⟨⟨in_all 799 (by decide +kernel) rfl, in_all 45 (by decide +kernel) rfl, in_all 796 (by decide +kernel) rfl, by decide +kernel⟩, in_all 797 (by decide +kernel) rfl, in_all 798 (by decide +kernel) rfl, TX7, 19, rfl⟩
theorem lk_L_31 : LV RL 31 yX6_alarm cX6_alarm 4 (some .int) 3 6 := ⟨⟨in_all 406 (by decide +kernel) rfl, in_all 37 (by decide +kernel) rfl, in_all 403 (by decide +kernel) rfl, by decide +kernel⟩, in_all 404 (by decide +kernel) rfl, in_all 405 (by decide +kernel) rfl, TX6, 8, rfl⟩
theorem lk_L_35 : LV RL 35 yX7_alarm cX7_alarm 5 (some .int) 3 7 := ⟨⟨in_all 803 (by decide +kernel) rfl, in_all 45 (by decide +kernel) rfl, in_all 800 (by decide +kernel) rfl, by decide +kernel⟩, in_all 801 (by decide +kernel) rfl, in_all 802 (by decide +kernel) rfl, TX7, 19, rfl⟩
theorem lk_L_36 : LV RL 36 yX6_arm cX6_arm 3 (some .int) 2 6 := ⟨⟨in_all 420 (by decide +kernel) rfl, in_all 37 (by decide +kernel) rfl, in_all 417 (by decide +kernel) rfl, by decide +kernel⟩, in_all 418 (by decide +kernel) rfl, in_all 419 (by decide +kernel) rfl, TX6, 8, rfl⟩
theorem lk_L_39 : LV RL 39 yX7_arm cX7_arm 5 (some .int) 2 7 := ⟨⟨in_all 810 (by decide +kernel) rfl, in_all 45 (by decide +kernel) rfl, in_all 807 (by decide +kernel) rfl, by decide +kernel⟩, in_all 808 (by decide +kernel) rfl, in_all 809 (by decide +kernel) rfl, TX7, 19, rfl⟩
theorem lk_L_40 : LV RL 40 yX6_clear cX6_clear 2 (some .int) 0 6 := ⟨⟨in_all 428 (by decide +kernel) rfl, in_all 37 (by decide +kernel) rfl, in_all 425 (by decide +kernel) rfl, by decide +kernel⟩, in_all 426 (by decide +kernel) rfl, in_all 427 (by decide +kernel) rfl, TX6, 8, rfl⟩
theorem lk_L_44 : LV RL 44 yX7_clear cX7_clear 3 (some .int) 0 7 := ⟨⟨in_all 814 (by decide +kernel) rfl, in_all 45 (by decide +kernel) rfl, in_all 811 (by decide +kernel) rfl, by decide +kernel⟩, in_all 812 (by decide +kernel) rfl, in_all 813 (by decide +kernel) rfl, TX7, 19, rfl⟩
theorem lk_L_45 : LV RL 45 yX6_fail cX6_fail 4 (some .int) 3 6 := ⟨⟨in_all 432 (by decide +kernel) rfl, in_all 37 (by decide +kernel) rfl, in_all 429 (by decide +kernel) rfl, by decide +kernel⟩, in_all 430 (by decide +kernel) rfl, in_all 431 (by decide +kernel) rfl, TX6, 8, rfl⟩
theorem lk_L_48 : LV RL 48 yX7_fail cX7_fail 4 (some .int) 3 7 := ⟨⟨in_all 822 (by decide +kernel) rfl, in_all 45 (by decide +kernel) rfl, in_all 819 (by decide +kernel) rfl, by decide +kernel⟩, in_all 820 (by decide +kernel) rfl, in_all 821 (by decide +kernel) rfl, TX7, 19, rfl⟩
theorem lk_L_49 : LV RL 49 yX6_heal cX6_heal 3 (some .int) 2 6 := ⟨⟨in_all 449 (by decide +kernel) rfl, in_all 37 (by decide +kernel) rfl, in_all 446 (by decide +kernel) rfl, by decide +kernel⟩, in_all 447 (by decide +kernel) rfl, in_all 448 (by decide +kernel) rfl, TX6, 8, rfl⟩
theorem lk_L_52 : LV RL 52 yX7_heal cX7_heal 3 (some .int) 2 7 := ⟨⟨in_all 827 (by decide +kernel) rfl, in_all 45 (by decide +kernel) rfl, in_all 824 (by decide +kernel) rfl, by decide +kernel⟩, in_all 825 (by decide +kernel) rfl, in_all 826 (by decide +kernel) rfl, TX7, 19, rfl⟩
theorem lk_L_53 : LV RL 53 yX6_set cX6_set 3 (some .int) 2 6 := ⟨⟨in_all 467 (by decide +kernel) rfl, in_all 37 (by decide +kernel) rfl, in_all 464 (by decide +kernel) rfl, by decide +kernel⟩, in_all 465 (by decide +kernel) rfl, in_all 466 (by decide +kernel) rfl, TX6, 8, rfl⟩
theorem lk_L_56 : LV RL 56 yX7_set cX7_set 4 (some .int) 2 7 := ⟨⟨in_all 838 (by decide +kernel) rfl, in_all 45 (by decide +kernel) rfl, in_all 835 (by decide +kernel) rfl, by decide +kernel⟩, in_all 836 (by decide +kernel) rfl, in_all 837 (by decide +kernel) rfl, TX7, 19, rfl⟩
theorem lk_L_57 : LV RL 57 yX6_registerOf cX6_registerOf 5 (some .int) 2 6 := ⟨⟨in_all 479 (by decide +kernel) rfl, in_all 37 (by decide +kernel) rfl, in_all 476 (by decide +kernel) rfl, by decide +kernel⟩, in_all 477 (by decide +kernel) rfl, in_all 478 (by decide +kernel) rfl, TX6, 8, rfl⟩
theorem lk_L_60 : LV RL 60 yX7_registerOf cX7_registerOf 3 (some .int) 2 7 := ⟨⟨in_all 842 (by decide +kernel) rfl, in_all 45 (by decide +kernel) rfl, in_all 839 (by decide +kernel) rfl, by decide +kernel⟩, in_all 840 (by decide +kernel) rfl, in_all 841 (by decide +kernel) rfl, TX7, 19, rfl⟩
theorem lk_L_61 : LV RL 61 yX6_alarmOf cX6_alarmOf 4 (some .int) 2 6 := ⟨⟨in_all 493 (by decide +kernel) rfl, in_all 37 (by decide +kernel) rfl, in_all 490 (by decide +kernel) rfl, by decide +kernel⟩, in_all 491 (by decide +kernel) rfl, in_all 492 (by decide +kernel) rfl, TX6, 8, rfl⟩
theorem lk_L_64 : LV RL 64 yX7_alarmOf cX7_alarmOf 3 (some .int) 2 7 := ⟨⟨in_all 850 (by decide +kernel) rfl, in_all 45 (by decide +kernel) rfl, in_all 847 (by decide +kernel) rfl, by decide +kernel⟩, in_all 848 (by decide +kernel) rfl, in_all 849 (by decide +kernel) rfl, TX7, 19, rfl⟩
theorem lk_L_65 : LV RL 65 yX6_date cX6_date 3 (some .int) 1 6 := ⟨⟨in_all 499 (by decide +kernel) rfl, in_all 37 (by decide +kernel) rfl, in_all 496 (by decide +kernel) rfl, by decide +kernel⟩, in_all 497 (by decide +kernel) rfl, in_all 498 (by decide +kernel) rfl, TX6, 8, rfl⟩
theorem lk_L_68 : LV RL 68 yX7_date cX7_date 3 (some .int) 1 7 := ⟨⟨in_all 854 (by decide +kernel) rfl, in_all 45 (by decide +kernel) rfl, in_all 851 (by decide +kernel) rfl, by decide +kernel⟩, in_all 852 (by decide +kernel) rfl, in_all 853 (by decide +kernel) rfl, TX7, 19, rfl⟩
theorem lk_L_69 : LV RL 69 yX6_log cX6_log 3 (some .int) 2 6 := ⟨⟨in_all 530 (by decide +kernel) rfl, in_all 37 (by decide +kernel) rfl, in_all 527 (by decide +kernel) rfl, by decide +kernel⟩, in_all 528 (by decide +kernel) rfl, in_all 529 (by decide +kernel) rfl, TX6, 8, rfl⟩
theorem lk_L_72 : LV RL 72 yX7_log cX7_log 3 (some .int) 2 7 := ⟨⟨in_all 866 (by decide +kernel) rfl, in_all 45 (by decide +kernel) rfl, in_all 863 (by decide +kernel) rfl, by decide +kernel⟩, in_all 864 (by decide +kernel) rfl, in_all 865 (by decide +kernel) rfl, TX7, 19, rfl⟩
theorem lk_L_73 : LV RL 73 yX6_readable cX6_readable 3 (some .int) 0 6 := ⟨⟨in_all 538 (by decide +kernel) rfl, in_all 37 (by decide +kernel) rfl, in_all 535 (by decide +kernel) rfl, by decide +kernel⟩, in_all 536 (by decide +kernel) rfl, in_all 537 (by decide +kernel) rfl, TX6, 8, rfl⟩
theorem lk_L_76 : LV RL 76 yX7_readable cX7_readable 2 (some .int) 0 7 := ⟨⟨in_all 870 (by decide +kernel) rfl, in_all 45 (by decide +kernel) rfl, in_all 867 (by decide +kernel) rfl, by decide +kernel⟩, in_all 868 (by decide +kernel) rfl, in_all 869 (by decide +kernel) rfl, TX7, 19, rfl⟩
theorem lk_L_77 : LV RL 77 yX6_safeIn cX6_safeIn 3 (some .int) 0 6 := ⟨⟨in_all 542 (by decide +kernel) rfl, in_all 37 (by decide +kernel) rfl, in_all 539 (by decide +kernel) rfl, by decide +kernel⟩, in_all 540 (by decide +kernel) rfl, in_all 541 (by decide +kernel) rfl, TX6, 8, rfl⟩
theorem lk_L_80 : LV RL 80 yX7_safeIn cX7_safeIn 2 (some .int) 0 7 := ⟨⟨in_all 874 (by decide +kernel) rfl, in_all 45 (by decide +kernel) rfl, in_all 871 (by decide +kernel) rfl, by decide +kernel⟩, in_all 872 (by decide +kernel) rfl, in_all 873 (by decide +kernel) rfl, TX7, 19, rfl⟩
theorem lk_L_81 : LV RL 81 yX6_ifBurst cX6_ifBurst 3 (some .int) 2 6 := ⟨⟨in_all 546 (by decide +kernel) rfl, in_all 37 (by decide +kernel) rfl, in_all 543 (by decide +kernel) rfl, by decide +kernel⟩, in_all 544 (by decide +kernel) rfl, in_all 545 (by decide +kernel) rfl, TX6, 8, rfl⟩
theorem lk_L_84 : LV RL 84 yX7_ifBurst cX7_ifBurst 5 (some .int) 2 7 := ⟨⟨in_all 878 (by decide +kernel) rfl, in_all 45 (by decide +kernel) rfl, in_all 875 (by decide +kernel) rfl, by decide +kernel⟩, in_all 876 (by decide +kernel) rfl, in_all 877 (by decide +kernel) rfl, TX7, 19, rfl⟩
theorem lk_L_85 : LV RL 85 yX6_comesIn cX6_comesIn 3 (some .int) 1 6 := ⟨⟨in_all 550 (by decide +kernel) rfl, in_all 37 (by decide +kernel) rfl, in_all 547 (by decide +kernel) rfl, by decide +kernel⟩, in_all 548 (by decide +kernel) rfl, in_all 549 (by decide +kernel) rfl, TX6, 8, rfl⟩
theorem lk_L_88 : LV RL 88 yX7_comesIn cX7_comesIn 4 (some .int) 1 7 := ⟨⟨in_all 885 (by decide +kernel) rfl, in_all 45 (by decide +kernel) rfl, in_all 882 (by decide +kernel) rfl, by decide +kernel⟩, in_all 883 (by decide +kernel) rfl, in_all 884 (by decide +kernel) rfl, TX7, 19, rfl⟩
theorem lk_L_89 : LV RL 89 yX6_share cX6_share 1 (some .int) 0 6 := ⟨⟨in_all 556 (by decide +kernel) rfl, in_all 37 (by decide +kernel) rfl, in_all 553 (by decide +kernel) rfl, by decide +kernel⟩, in_all 554 (by decide +kernel) rfl, in_all 555 (by decide +kernel) rfl, TX6, 8, rfl⟩
theorem lk_L_92 : LV RL 92 yX7_share cX7_share 3 (some .int) 0 7 := ⟨⟨in_all 889 (by decide +kernel) rfl, in_all 45 (by decide +kernel) rfl, in_all 886 (by decide +kernel) rfl, by decide +kernel⟩, in_all 887 (by decide +kernel) rfl, in_all 888 (by decide +kernel) rfl, TX7, 19, rfl⟩
theorem lk_L_93 : LV RL 93 yX6_count cX6_count 2 (some .int) 1 6 := ⟨⟨in_all 565 (by decide +kernel) rfl, in_all 37 (by decide +kernel) rfl, in_all 562 (by decide +kernel) rfl, by decide +kernel⟩, in_all 563 (by decide +kernel) rfl, in_all 564 (by decide +kernel) rfl, TX6, 8, rfl⟩
theorem lk_L_96 : LV RL 96 yX7_count cX7_count 2 (some .int) 1 7 := ⟨⟨in_all 903 (by decide +kernel) rfl, in_all 45 (by decide +kernel) rfl, in_all 900 (by decide +kernel) rfl, by decide +kernel⟩, in_all 901 (by decide +kernel) rfl, in_all 902 (by decide +kernel) rfl, TX7, 19, rfl⟩
theorem lk_L_97 : LV RL 97 yX6_undo cX6_undo 2 (some .int) 0 6 := ⟨⟨in_all 577 (by decide +kernel) rfl, in_all 37 (by decide +kernel) rfl, in_all 574 (by decide +kernel) rfl, by decide +kernel⟩, in_all 575 (by decide +kernel) rfl, in_all 576 (by decide +kernel) rfl, TX6, 8, rfl⟩
theorem lk_L_100 : LV RL 100 yX7_undo cX7_undo 2 (some .int) 0 7 := ⟨⟨in_all 911 (by decide +kernel) rfl, in_all 45 (by decide +kernel) rfl, in_all 908 (by decide +kernel) rfl, by decide +kernel⟩, in_all 909 (by decide +kernel) rfl, in_all 910 (by decide +kernel) rfl, TX7, 19, rfl⟩
theorem lk_L_101 : LV RL 101 yX6_type cX6_type 2 (some .int) 1 6 := ⟨⟨in_all 581 (by decide +kernel) rfl, in_all 37 (by decide +kernel) rfl, in_all 578 (by decide +kernel) rfl, by decide +kernel⟩, in_all 579 (by decide +kernel) rfl, in_all 580 (by decide +kernel) rfl, TX6, 8, rfl⟩
theorem lk_L_104 : LV RL 104 yX7_type cX7_type 2 (some .int) 1 7 := ⟨⟨in_all 915 (by decide +kernel) rfl, in_all 45 (by decide +kernel) rfl, in_all 912 (by decide +kernel) rfl, by decide +kernel⟩, in_all 913 (by decide +kernel) rfl, in_all 914 (by decide +kernel) rfl, TX7, 19, rfl⟩
theorem lk_L_105 : LV RL 105 yX6_clearText cX6_clearText 2 (some .int) 0 6 := ⟨⟨in_all 586 (by decide +kernel) rfl, in_all 37 (by decide +kernel) rfl, in_all 583 (by decide +kernel) rfl, by decide +kernel⟩, in_all 584 (by decide +kernel) rfl, in_all 585 (by decide +kernel) rfl, TX6, 8, rfl⟩
theorem lk_L_108 : LV RL 108 yX7_clearText cX7_clearText 2 (some .int) 0 7 := ⟨⟨in_all 920 (by decide +kernel) rfl, in_all 45 (by decide +kernel) rfl, in_all 917 (by decide +kernel) rfl, by decide +kernel⟩, in_all 918 (by decide +kernel) rfl, in_all 919 (by decide +kernel) rfl, TX7, 19, rfl⟩
theorem lk_L_109 : LV RL 109 yX6_fault cX6_fault 3 (some .int) 1 6 := ⟨⟨in_all 590 (by decide +kernel) rfl, in_all 37 (by decide +kernel) rfl, in_all 587 (by decide +kernel) rfl, by decide +kernel⟩, in_all 588 (by decide +kernel) rfl, in_all 589 (by decide +kernel) rfl, TX6, 8, rfl⟩
theorem lk_L_112 : LV RL 112 yX7_fault cX7_fault 3 (some .int) 1 7 := ⟨⟨in_all 924 (by decide +kernel) rfl, in_all 45 (by decide +kernel) rfl, in_all 921 (by decide +kernel) rfl, by decide +kernel⟩, in_all 922 (by decide +kernel) rfl, in_all 923 (by decide +kernel) rfl, TX7, 19, rfl⟩
theorem lk_L_113 : LV RL 113 yX6_play cX6_play 4 (some .int) 0 6 := ⟨⟨in_all 614 (by decide +kernel) rfl, in_all 37 (by decide +kernel) rfl, in_all 611 (by decide +kernel) rfl, by decide +kernel⟩, in_all 612 (by decide +kernel) rfl, in_all 613 (by decide +kernel) rfl, TX6, 8, rfl⟩
theorem lk_L_116 : LV RL 116 yX7_play cX7_play 2 (some .int) 0 7 := ⟨⟨in_all 961 (by decide +kernel) rfl, in_all 45 (by decide +kernel) rfl, in_all 958 (by decide +kernel) rfl, by decide +kernel⟩, in_all 959 (by decide +kernel) rfl, in_all 960 (by decide +kernel) rfl, TX7, 19, rfl⟩
theorem oi_X0_3 : Cond.methodLink RX0 3 objectInit ∈ lw_all := in_all 98 (by decide +kernel) rfl
theorem ac_X0_23 : AC RX0 23 := ⟨in_all 288 (by decide +kernel) rfl, in_all 72 (by decide +kernel) rfl, in_all 71 (by decide +kernel) rfl, in_all 40 (by decide +kernel) rfl⟩
theorem lkN_X6_bitOf : LBN yX6_bitOf cX6_bitOf 2 (some .int) 2 := ⟨in_all 348 (by decide +kernel) rfl, in_all 37 (by decide +kernel) rfl, in_all 347 (by decide +kernel) rfl, by decide +kernel⟩
theorem lk_X0_44 : LV RX0 44 yX0_matches cX0_matches 5 (some .boolean) 2 0 := ⟨⟨in_all 352 (by decide +kernel) rfl, in_all 41 (by decide +kernel) rfl, in_all 349 (by decide +kernel) rfl, by decide +kernel⟩, in_all 350 (by decide +kernel) rfl, in_all 351 (by decide +kernel) rfl, TX0, 5, rfl⟩
theorem oi_X1_3 : Cond.methodLink RX1 3 objectInit ∈ lw_all := in_all 192 (by decide +kernel) rfl
theorem lk_X1_29 : LV RX1 29 yX1_seeAtOnce cX1_seeAtOnce 2 none 1 1 := ⟨⟨in_all 367 (by decide +kernel) rfl, in_all 43 (by decide +kernel) rfl, in_all 364 (by decide +kernel) rfl, by decide +kernel⟩, in_all 365 (by decide +kernel) rfl, in_all 366 (by decide +kernel) rfl, TX1, 4, rfl⟩
theorem lk_X1_36 : LV RX1 36 yX3_passPhases cX3_passPhases 4 (some .int) 1 3 := ⟨⟨in_all 314 (by decide +kernel) rfl, in_all 38 (by decide +kernel) rfl, in_all 373 (by decide +kernel) rfl, by decide +kernel⟩, in_all 312 (by decide +kernel) rfl, in_all 313 (by decide +kernel) rfl, TX3, 11, rfl⟩
theorem lk_X1_40 : LV RX1 40 yX1_readInTurn cX1_readInTurn 5 none 1 1 := ⟨⟨in_all 377 (by decide +kernel) rfl, in_all 43 (by decide +kernel) rfl, in_all 374 (by decide +kernel) rfl, by decide +kernel⟩, in_all 375 (by decide +kernel) rfl, in_all 376 (by decide +kernel) rfl, TX1, 4, rfl⟩
theorem ac_X1_44 : AC RX1 44 := ⟨in_all 372 (by decide +kernel) rfl, in_all 72 (by decide +kernel) rfl, in_all 71 (by decide +kernel) rfl, in_all 40 (by decide +kernel) rfl⟩
theorem lk_X1_50 : LV RX1 50 yX1_isTold cX1_isTold 3 (some .boolean) 1 1 := ⟨⟨in_all 382 (by decide +kernel) rfl, in_all 43 (by decide +kernel) rfl, in_all 379 (by decide +kernel) rfl, by decide +kernel⟩, in_all 380 (by decide +kernel) rfl, in_all 381 (by decide +kernel) rfl, TX1, 4, rfl⟩
theorem lk_X1_54 : LV RX1 54 yX1_isTorn cX1_isTorn 2 (some .boolean) 0 1 := ⟨⟨in_all 386 (by decide +kernel) rfl, in_all 43 (by decide +kernel) rfl, in_all 383 (by decide +kernel) rfl, by decide +kernel⟩, in_all 384 (by decide +kernel) rfl, in_all 385 (by decide +kernel) rfl, TX1, 4, rfl⟩
theorem lk_X1_58 : LV RX1 58 yX3_logBurst cX3_logBurst 2 none 1 3 := ⟨⟨in_all 390 (by decide +kernel) rfl, in_all 38 (by decide +kernel) rfl, in_all 387 (by decide +kernel) rfl, by decide +kernel⟩, in_all 388 (by decide +kernel) rfl, in_all 389 (by decide +kernel) rfl, TX3, 11, rfl⟩
theorem lk_X1_66 : LV RX1 66 yX1_keepShown cX1_keepShown 2 none 1 1 := ⟨⟨in_all 371 (by decide +kernel) rfl, in_all 43 (by decide +kernel) rfl, in_all 368 (by decide +kernel) rfl, by decide +kernel⟩, in_all 369 (by decide +kernel) rfl, in_all 370 (by decide +kernel) rfl, TX1, 4, rfl⟩
theorem lk_X1_74 : LV RX1 74 yX3_passPhase cX3_passPhase 1 (some .boolean) 0 3 := ⟨⟨in_all 318 (by decide +kernel) rfl, in_all 38 (by decide +kernel) rfl, in_all 378 (by decide +kernel) rfl, by decide +kernel⟩, in_all 316 (by decide +kernel) rfl, in_all 317 (by decide +kernel) rfl, TX3, 11, rfl⟩
theorem oi_X2_3 : Cond.methodLink RX2 3 objectInit ∈ lw_all := in_all 127 (by decide +kernel) rfl
theorem ac_X2_16 : AC RX2 16 := ⟨in_all 293 (by decide +kernel) rfl, in_all 72 (by decide +kernel) rfl, in_all 71 (by decide +kernel) rfl, in_all 40 (by decide +kernel) rfl⟩
theorem oi_X3_3 : Cond.methodLink RX3 3 objectInit ∈ lw_all := in_all 61 (by decide +kernel) rfl
theorem lk_X3_11 : LI RX3 11 yX5_init cX5_init 1 0 := ⟨⟨in_all 66 (by decide +kernel) rfl, in_all 39 (by decide +kernel) rfl, in_all 64 (by decide +kernel) rfl, by decide +kernel⟩, rfl, in_all 65 (by decide +kernel) rfl⟩
theorem lk_X3_20 : LI RX3 20 yX0_init cX0_init 1 0 := ⟨⟨in_all 97 (by decide +kernel) rfl, in_all 41 (by decide +kernel) rfl, in_all 95 (by decide +kernel) rfl, by decide +kernel⟩, rfl, in_all 96 (by decide +kernel) rfl⟩
theorem lk_X3_27 : LI RX3 27 yX2_init cX2_init 1 0 := ⟨⟨in_all 126 (by decide +kernel) rfl, in_all 42 (by decide +kernel) rfl, in_all 124 (by decide +kernel) rfl, by decide +kernel⟩, rfl, in_all 125 (by decide +kernel) rfl⟩
theorem lk_X3_36 : LV RX3 36 yX5_copyFrom cX5_copyFrom 2 none 1 5 := ⟨⟨in_all 283 (by decide +kernel) rfl, in_all 39 (by decide +kernel) rfl, in_all 280 (by decide +kernel) rfl, by decide +kernel⟩, in_all 281 (by decide +kernel) rfl, in_all 282 (by decide +kernel) rfl, TX5, 4, rfl⟩
theorem lk_X3_40 : LV RX3 40 yX0_copyFrom cX0_copyFrom 3 none 1 0 := ⟨⟨in_all 287 (by decide +kernel) rfl, in_all 41 (by decide +kernel) rfl, in_all 284 (by decide +kernel) rfl, by decide +kernel⟩, in_all 285 (by decide +kernel) rfl, in_all 286 (by decide +kernel) rfl, TX0, 5, rfl⟩
theorem lk_X3_43 : LV RX3 43 yX2_copyFrom cX2_copyFrom 3 none 1 2 := ⟨⟨in_all 292 (by decide +kernel) rfl, in_all 42 (by decide +kernel) rfl, in_all 289 (by decide +kernel) rfl, by decide +kernel⟩, in_all 290 (by decide +kernel) rfl, in_all 291 (by decide +kernel) rfl, TX2, 3, rfl⟩
theorem ac_X3_46 : AC RX3 46 := ⟨in_all 294 (by decide +kernel) rfl, in_all 72 (by decide +kernel) rfl, in_all 71 (by decide +kernel) rfl, in_all 40 (by decide +kernel) rfl⟩
theorem lk_X3_74 : LV RX3 74 yX5_tick cX5_tick 1 none 0 5 := ⟨⟨in_all 322 (by decide +kernel) rfl, in_all 39 (by decide +kernel) rfl, in_all 319 (by decide +kernel) rfl, by decide +kernel⟩, in_all 320 (by decide +kernel) rfl, in_all 321 (by decide +kernel) rfl, TX5, 4, rfl⟩
theorem lk_X3_77 : LV RX3 77 yX0_comeIfDue cX0_comeIfDue 3 none 1 0 := ⟨⟨in_all 345 (by decide +kernel) rfl, in_all 41 (by decide +kernel) rfl, in_all 342 (by decide +kernel) rfl, by decide +kernel⟩, in_all 343 (by decide +kernel) rfl, in_all 344 (by decide +kernel) rfl, TX0, 5, rfl⟩
theorem lk_X3_80 : LV RX3 80 yX3_passPhase cX3_passPhase 1 (some .boolean) 0 3 := ⟨⟨in_all 318 (by decide +kernel) rfl, in_all 38 (by decide +kernel) rfl, in_all 315 (by decide +kernel) rfl, by decide +kernel⟩, in_all 316 (by decide +kernel) rfl, in_all 317 (by decide +kernel) rfl, TX3, 11, rfl⟩
theorem lk_X3_87 : LV RX3 87 yX5_withCells cX5_withCells 3 (some .int) 2 5 := ⟨⟨in_all 302 (by decide +kernel) rfl, in_all 39 (by decide +kernel) rfl, in_all 299 (by decide +kernel) rfl, by decide +kernel⟩, in_all 300 (by decide +kernel) rfl, in_all 301 (by decide +kernel) rfl, TX5, 4, rfl⟩
theorem lk_X3_91 : LV RX3 91 yX3_passPhases cX3_passPhases 4 (some .int) 1 3 := ⟨⟨in_all 314 (by decide +kernel) rfl, in_all 38 (by decide +kernel) rfl, in_all 311 (by decide +kernel) rfl, by decide +kernel⟩, in_all 312 (by decide +kernel) rfl, in_all 313 (by decide +kernel) rfl, TX3, 11, rfl⟩
theorem lk_X3_95 : LV RX3 95 yX2_add cX2_add 2 none 1 2 := ⟨⟨in_all 394 (by decide +kernel) rfl, in_all 42 (by decide +kernel) rfl, in_all 391 (by decide +kernel) rfl, by decide +kernel⟩, in_all 392 (by decide +kernel) rfl, in_all 393 (by decide +kernel) rfl, TX2, 3, rfl⟩
theorem oi_X4_1 : Cond.methodLink RX4 1 objectInit ∈ lw_all := in_all 213 (by decide +kernel) rfl
theorem lk_X4_17 : LkS RX4 17 yX4_numbersBehind cX4_numbersBehind 1 (some .int) 1 := ⟨⟨in_all 601 (by decide +kernel) rfl, in_all 44 (by decide +kernel) rfl, in_all 599 (by decide +kernel) rfl, by decide +kernel⟩, in_all 600 (by decide +kernel) rfl⟩
theorem lk_X4_25 : LkS RX4 25 yX4_endOfDigits cX4_endOfDigits 4 (some .int) 3 := ⟨⟨in_all 604 (by decide +kernel) rfl, in_all 44 (by decide +kernel) rfl, in_all 602 (by decide +kernel) rfl, by decide +kernel⟩, in_all 603 (by decide +kernel) rfl⟩
theorem lk_X4_29 : LkS RX4 29 yX4_numberIn cX4_numberIn 5 (some .int) 3 := ⟨⟨in_all 607 (by decide +kernel) rfl, in_all 44 (by decide +kernel) rfl, in_all 605 (by decide +kernel) rfl, by decide +kernel⟩, in_all 606 (by decide +kernel) rfl⟩
theorem oi_X5_3 : Cond.methodLink RX5 3 objectInit ∈ lw_all := in_all 67 (by decide +kernel) rfl
theorem ac_X5_27 : AC RX5 27 := ⟨in_all 70 (by decide +kernel) rfl, in_all 72 (by decide +kernel) rfl, in_all 71 (by decide +kernel) rfl, in_all 40 (by decide +kernel) rfl⟩
theorem lk_X5_36 : LV RX5 36 yX5_isLeapYear cX5_isLeapYear 3 (some .boolean) 0 5 := ⟨⟨in_all 332 (by decide +kernel) rfl, in_all 39 (by decide +kernel) rfl, in_all 329 (by decide +kernel) rfl, by decide +kernel⟩, in_all 330 (by decide +kernel) rfl, in_all 331 (by decide +kernel) rfl, TX5, 4, rfl⟩
theorem lk_X5_40 : LV RX5 40 yX5_lastValue cX5_lastValue 2 (some .int) 1 5 := ⟨⟨in_all 326 (by decide +kernel) rfl, in_all 39 (by decide +kernel) rfl, in_all 323 (by decide +kernel) rfl, by decide +kernel⟩, in_all 324 (by decide +kernel) rfl, in_all 325 (by decide +kernel) rfl, TX5, 4, rfl⟩
theorem lk_X5_44 : LV RX5 44 yX5_whyWrong cX5_whyWrong 3 (some .int) 1 5 := ⟨⟨in_all 487 (by decide +kernel) rfl, in_all 39 (by decide +kernel) rfl, in_all 504 (by decide +kernel) rfl, by decide +kernel⟩, in_all 485 (by decide +kernel) rfl, in_all 486 (by decide +kernel) rfl, TX5, 4, rfl⟩
theorem lk_X5_51 : LV RX5 51 yX5_withCells cX5_withCells 3 (some .int) 2 5 := ⟨⟨in_all 302 (by decide +kernel) rfl, in_all 39 (by decide +kernel) rfl, in_all 341 (by decide +kernel) rfl, by decide +kernel⟩, in_all 300 (by decide +kernel) rfl, in_all 301 (by decide +kernel) rfl, TX5, 4, rfl⟩
theorem lk_X5_54 : LkS RX5 54 yJ6_bitCount_0f7a4 cJ6_bitCount_0f7a4 1 (some .int) 1 := ⟨⟨in_all 460 (by decide +kernel) rfl, in_all 46 (by decide +kernel) rfl, in_all 458 (by decide +kernel) rfl, by decide +kernel⟩, in_all 459 (by decide +kernel) rfl⟩
theorem lk_X5_59 : LV RX5 59 yX5_nextValue cX5_nextValue 4 (some .int) 2 5 := ⟨⟨in_all 340 (by decide +kernel) rfl, in_all 39 (by decide +kernel) rfl, in_all 337 (by decide +kernel) rfl, by decide +kernel⟩, in_all 338 (by decide +kernel) rfl, in_all 339 (by decide +kernel) rfl, TX5, 4, rfl⟩
theorem lk_X5_62 : LV RX5 62 yX5_stepOn cX5_stepOn 4 (some .boolean) 2 5 := ⟨⟨in_all 336 (by decide +kernel) rfl, in_all 39 (by decide +kernel) rfl, in_all 333 (by decide +kernel) rfl, by decide +kernel⟩, in_all 334 (by decide +kernel) rfl, in_all 335 (by decide +kernel) rfl, TX5, 4, rfl⟩
theorem lkN_X6_numberOf : LBN yX6_numberOf cX6_numberOf 1 (some .int) 1 := ⟨in_all 483 (by decide +kernel) rfl, in_all 37 (by decide +kernel) rfl, in_all 482 (by decide +kernel) rfl, by decide +kernel⟩
theorem lk_X5_72 : LV RX5 72 yX5_dayOfYear cX5_dayOfYear 3 (some .int) 0 5 := ⟨⟨in_all 514 (by decide +kernel) rfl, in_all 39 (by decide +kernel) rfl, in_all 511 (by decide +kernel) rfl, by decide +kernel⟩, in_all 512 (by decide +kernel) rfl, in_all 513 (by decide +kernel) rfl, TX5, 4, rfl⟩
theorem lk_X5_76 : LV RX5 76 yX5_daysFromStart cX5_daysFromStart 3 (some .int) 0 5 := ⟨⟨in_all 509 (by decide +kernel) rfl, in_all 39 (by decide +kernel) rfl, in_all 521 (by decide +kernel) rfl, by decide +kernel⟩, in_all 507 (by decide +kernel) rfl, in_all 508 (by decide +kernel) rfl, TX5, 4, rfl⟩
theorem oi_X6_1 : Cond.methodLink RX6 1 objectInit ∈ lw_all := in_all 53 (by decide +kernel) rfl
theorem lk_X6_9 : LI RX6 9 yX3_init cX3_init 1 0 := ⟨⟨in_all 60 (by decide +kernel) rfl, in_all 38 (by decide +kernel) rfl, in_all 58 (by decide +kernel) rfl, by decide +kernel⟩, rfl, in_all 59 (by decide +kernel) rfl⟩
theorem lk_X6_21 : LI RX6 21 yX1_init cX1_init 1 0 := ⟨⟨in_all 191 (by decide +kernel) rfl, in_all 43 (by decide +kernel) rfl, in_all 189 (by decide +kernel) rfl, by decide +kernel⟩, rfl, in_all 190 (by decide +kernel) rfl⟩
theorem lk_X6_28 : LI RX6 28 yX4_init cX4_init 1 0 := ⟨⟨in_all 212 (by decide +kernel) rfl, in_all 44 (by decide +kernel) rfl, in_all 210 (by decide +kernel) rfl, by decide +kernel⟩, rfl, in_all 211 (by decide +kernel) rfl⟩
theorem lk_X6_41 : LkS RX6 41 yX6_mayWrite cX6_mayWrite 2 (some .boolean) 2 := ⟨⟨in_all 264 (by decide +kernel) rfl, in_all 37 (by decide +kernel) rfl, in_all 262 (by decide +kernel) rfl, by decide +kernel⟩, in_all 263 (by decide +kernel) rfl⟩
theorem lk_X6_46 : LV RX6 46 yX6_keepState cX6_keepState 3 none 0 6 := ⟨⟨in_all 275 (by decide +kernel) rfl, in_all 37 (by decide +kernel) rfl, in_all 272 (by decide +kernel) rfl, by decide +kernel⟩, in_all 274 (by decide +kernel) rfl, in_all 0 (by decide +kernel) rfl, TX6, 8, rfl⟩
theorem lk_X6_49 : LV RX6 49 yX3_writeRegister cX3_writeRegister 3 (some .int) 2 3 := ⟨⟨in_all 298 (by decide +kernel) rfl, in_all 38 (by decide +kernel) rfl, in_all 295 (by decide +kernel) rfl, by decide +kernel⟩, in_all 296 (by decide +kernel) rfl, in_all 297 (by decide +kernel) rfl, TX3, 11, rfl⟩
theorem lk_X6_53 : LkS RX6 53 yX6_isRegister cX6_isRegister 1 (some .boolean) 1 := ⟨⟨in_all 267 (by decide +kernel) rfl, in_all 37 (by decide +kernel) rfl, in_all 265 (by decide +kernel) rfl, by decide +kernel⟩, in_all 266 (by decide +kernel) rfl⟩
theorem lk_X6_57 : LV RX6 57 yX3_readRegister cX3_readRegister 3 (some .int) 1 3 := ⟨⟨in_all 310 (by decide +kernel) rfl, in_all 38 (by decide +kernel) rfl, in_all 307 (by decide +kernel) rfl, by decide +kernel⟩, in_all 308 (by decide +kernel) rfl, in_all 309 (by decide +kernel) rfl, TX3, 11, rfl⟩
theorem lk_X6_61 : LkS RX6 61 yX6_isMode cX6_isMode 1 (some .boolean) 1 := ⟨⟨in_all 359 (by decide +kernel) rfl, in_all 37 (by decide +kernel) rfl, in_all 357 (by decide +kernel) rfl, by decide +kernel⟩, in_all 358 (by decide +kernel) rfl⟩
theorem lk_X6_64 : LV RX6 64 yX1_make cX1_make 5 none 2 1 := ⟨⟨in_all 363 (by decide +kernel) rfl, in_all 43 (by decide +kernel) rfl, in_all 360 (by decide +kernel) rfl, by decide +kernel⟩, in_all 361 (by decide +kernel) rfl, in_all 362 (by decide +kernel) rfl, TX1, 4, rfl⟩
theorem lk_X6_72 : LkS RX6 72 yX6_mayPass cX6_mayPass 1 (some .boolean) 1 := ⟨⟨in_all 401 (by decide +kernel) rfl, in_all 37 (by decide +kernel) rfl, in_all 399 (by decide +kernel) rfl, by decide +kernel⟩, in_all 400 (by decide +kernel) rfl⟩
theorem lk_X6_75 : LV RX6 75 yX3_passPhases cX3_passPhases 4 (some .int) 1 3 := ⟨⟨in_all 314 (by decide +kernel) rfl, in_all 38 (by decide +kernel) rfl, in_all 402 (by decide +kernel) rfl, by decide +kernel⟩, in_all 312 (by decide +kernel) rfl, in_all 313 (by decide +kernel) rfl, TX3, 11, rfl⟩
theorem lk_X6_78 : LkS RX6 78 yX6_mayChangeAlarm cX6_mayChangeAlarm 3 (some .boolean) 3 := ⟨⟨in_all 409 (by decide +kernel) rfl, in_all 37 (by decide +kernel) rfl, in_all 407 (by decide +kernel) rfl, by decide +kernel⟩, in_all 408 (by decide +kernel) rfl⟩
theorem lk_X6_86 : LV RX6 86 yX0_changeValue cX0_changeValue 5 (some .int) 3 0 := ⟨⟨in_all 416 (by decide +kernel) rfl, in_all 41 (by decide +kernel) rfl, in_all 413 (by decide +kernel) rfl, by decide +kernel⟩, in_all 414 (by decide +kernel) rfl, in_all 415 (by decide +kernel) rfl, TX0, 5, rfl⟩
theorem lk_X6_92 : LkS RX6 92 yX6_isAlarm cX6_isAlarm 1 (some .boolean) 1 := ⟨⟨in_all 412 (by decide +kernel) rfl, in_all 37 (by decide +kernel) rfl, in_all 410 (by decide +kernel) rfl, by decide +kernel⟩, in_all 411 (by decide +kernel) rfl⟩
theorem lk_X6_95 : LkS RX6 95 yX6_isWithin cX6_isWithin 3 (some .boolean) 3 := ⟨⟨in_all 270 (by decide +kernel) rfl, in_all 37 (by decide +kernel) rfl, in_all 268 (by decide +kernel) rfl, by decide +kernel⟩, in_all 269 (by decide +kernel) rfl⟩
theorem lk_X6_98 : LV RX6 98 yX0_changeMask cX0_changeMask 4 (some .int) 2 0 := ⟨⟨in_all 424 (by decide +kernel) rfl, in_all 41 (by decide +kernel) rfl, in_all 421 (by decide +kernel) rfl, by decide +kernel⟩, in_all 422 (by decide +kernel) rfl, in_all 423 (by decide +kernel) rfl, TX0, 5, rfl⟩
theorem lk_X6_105 : LkS RX6 105 yX6_isCell cX6_isCell 2 (some .boolean) 2 := ⟨⟨in_all 435 (by decide +kernel) rfl, in_all 37 (by decide +kernel) rfl, in_all 433 (by decide +kernel) rfl, by decide +kernel⟩, in_all 434 (by decide +kernel) rfl⟩
theorem lk_X6_112 : LV RX6 112 yX5_hasFailed cX5_hasFailed 3 (some .boolean) 2 5 := ⟨⟨in_all 439 (by decide +kernel) rfl, in_all 39 (by decide +kernel) rfl, in_all 436 (by decide +kernel) rfl, by decide +kernel⟩, in_all 437 (by decide +kernel) rfl, in_all 438 (by decide +kernel) rfl, TX5, 4, rfl⟩
theorem lk_X6_118 : LV RX6 118 yX5_failCell cX5_failCell 4 (some .int) 3 5 := ⟨⟨in_all 445 (by decide +kernel) rfl, in_all 39 (by decide +kernel) rfl, in_all 442 (by decide +kernel) rfl, by decide +kernel⟩, in_all 443 (by decide +kernel) rfl, in_all 444 (by decide +kernel) rfl, TX5, 4, rfl⟩
theorem lk_X6_121 : LV RX6 121 yX5_healCell cX5_healCell 3 none 2 5 := ⟨⟨in_all 453 (by decide +kernel) rfl, in_all 39 (by decide +kernel) rfl, in_all 450 (by decide +kernel) rfl, by decide +kernel⟩, in_all 451 (by decide +kernel) rfl, in_all 452 (by decide +kernel) rfl, TX5, 4, rfl⟩
theorem lk_X6_125 : LV RX6 125 yX5_failedCells cX5_failedCells 3 (some .int) 0 5 := ⟨⟨in_all 457 (by decide +kernel) rfl, in_all 39 (by decide +kernel) rfl, in_all 454 (by decide +kernel) rfl, by decide +kernel⟩, in_all 455 (by decide +kernel) rfl, in_all 456 (by decide +kernel) rfl, TX5, 4, rfl⟩
theorem lk_X6_135 : LV RX6 135 yX3_changeSetting cX3_changeSetting 4 (some .int) 2 3 := ⟨⟨in_all 475 (by decide +kernel) rfl, in_all 38 (by decide +kernel) rfl, in_all 472 (by decide +kernel) rfl, by decide +kernel⟩, in_all 473 (by decide +kernel) rfl, in_all 474 (by decide +kernel) rfl, TX3, 11, rfl⟩
theorem lk_X6_138 : LV RX6 138 yX5_lastValue cX5_lastValue 2 (some .int) 1 5 := ⟨⟨in_all 326 (by decide +kernel) rfl, in_all 39 (by decide +kernel) rfl, in_all 480 (by decide +kernel) rfl, by decide +kernel⟩, in_all 324 (by decide +kernel) rfl, in_all 325 (by decide +kernel) rfl, TX5, 4, rfl⟩
theorem lk_X6_144 : LkS RX6 144 yX6_numberOf cX6_numberOf 1 (some .int) 1 := ⟨⟨in_all 483 (by decide +kernel) rfl, in_all 37 (by decide +kernel) rfl, in_all 481 (by decide +kernel) rfl, by decide +kernel⟩, in_all 482 (by decide +kernel) rfl⟩
theorem lk_X6_147 : LV RX6 147 yX5_whyWrong cX5_whyWrong 3 (some .int) 1 5 := ⟨⟨in_all 487 (by decide +kernel) rfl, in_all 39 (by decide +kernel) rfl, in_all 484 (by decide +kernel) rfl, by decide +kernel⟩, in_all 485 (by decide +kernel) rfl, in_all 486 (by decide +kernel) rfl, TX5, 4, rfl⟩
theorem lk_X6_156 : LV RX6 156 yX5_nextValue cX5_nextValue 4 (some .int) 2 5 := ⟨⟨in_all 340 (by decide +kernel) rfl, in_all 39 (by decide +kernel) rfl, in_all 488 (by decide +kernel) rfl, by decide +kernel⟩, in_all 338 (by decide +kernel) rfl, in_all 339 (by decide +kernel) rfl, TX5, 4, rfl⟩
theorem lk_X6_159 : LV RX6 159 yX5_withCells cX5_withCells 3 (some .int) 2 5 := ⟨⟨in_all 302 (by decide +kernel) rfl, in_all 39 (by decide +kernel) rfl, in_all 489 (by decide +kernel) rfl, by decide +kernel⟩, in_all 300 (by decide +kernel) rfl, in_all 301 (by decide +kernel) rfl, TX5, 4, rfl⟩
theorem lk_X6_171 : LkS RX6 171 yX6_bitOf cX6_bitOf 2 (some .int) 2 := ⟨⟨in_all 348 (by decide +kernel) rfl, in_all 37 (by decide +kernel) rfl, in_all 494 (by decide +kernel) rfl, by decide +kernel⟩, in_all 347 (by decide +kernel) rfl⟩
theorem lk_X6_177 : LV RX6 177 yX0_matches cX0_matches 5 (some .boolean) 2 0 := ⟨⟨in_all 352 (by decide +kernel) rfl, in_all 41 (by decide +kernel) rfl, in_all 495 (by decide +kernel) rfl, by decide +kernel⟩, in_all 350 (by decide +kernel) rfl, in_all 351 (by decide +kernel) rfl, TX0, 5, rfl⟩
theorem lk_X6_181 : LV RX6 181 yX5_isDateRight cX5_isDateRight 1 (some .boolean) 0 5 := ⟨⟨in_all 503 (by decide +kernel) rfl, in_all 39 (by decide +kernel) rfl, in_all 500 (by decide +kernel) rfl, by decide +kernel⟩, in_all 501 (by decide +kernel) rfl, in_all 502 (by decide +kernel) rfl, TX5, 4, rfl⟩
theorem lk_X6_186 : LV RX6 186 yX5_daysFromStart cX5_daysFromStart 3 (some .int) 0 5 := ⟨⟨in_all 509 (by decide +kernel) rfl, in_all 39 (by decide +kernel) rfl, in_all 506 (by decide +kernel) rfl, by decide +kernel⟩, in_all 507 (by decide +kernel) rfl, in_all 508 (by decide +kernel) rfl, TX5, 4, rfl⟩
theorem lk_X6_189 : LV RX6 189 yX5_weekdayByDate cX5_weekdayByDate 1 (some .int) 0 5 := ⟨⟨in_all 520 (by decide +kernel) rfl, in_all 39 (by decide +kernel) rfl, in_all 517 (by decide +kernel) rfl, by decide +kernel⟩, in_all 518 (by decide +kernel) rfl, in_all 519 (by decide +kernel) rfl, TX5, 4, rfl⟩
theorem lk_X6_192 : LV RX6 192 yX5_daysOfYear cX5_daysOfYear 1 (some .int) 0 5 := ⟨⟨in_all 525 (by decide +kernel) rfl, in_all 39 (by decide +kernel) rfl, in_all 522 (by decide +kernel) rfl, by decide +kernel⟩, in_all 523 (by decide +kernel) rfl, in_all 524 (by decide +kernel) rfl, TX5, 4, rfl⟩
theorem lk_X6_195 : LV RX6 195 yX5_dayOfYear cX5_dayOfYear 3 (some .int) 0 5 := ⟨⟨in_all 514 (by decide +kernel) rfl, in_all 39 (by decide +kernel) rfl, in_all 526 (by decide +kernel) rfl, by decide +kernel⟩, in_all 512 (by decide +kernel) rfl, in_all 513 (by decide +kernel) rfl, TX5, 4, rfl⟩
theorem lk_X6_207 : LV RX6 207 yX2_told cX2_told 4 (some .int) 2 2 := ⟨⟨in_all 534 (by decide +kernel) rfl, in_all 42 (by decide +kernel) rfl, in_all 531 (by decide +kernel) rfl, by decide +kernel⟩, in_all 532 (by decide +kernel) rfl, in_all 533 (by decide +kernel) rfl, TX2, 3, rfl⟩
theorem lk_X6_216 : LV RX6 216 yX3_copyFrom cX3_copyFrom 2 none 1 3 := ⟨⟨in_all 279 (by decide +kernel) rfl, in_all 38 (by decide +kernel) rfl, in_all 276 (by decide +kernel) rfl, by decide +kernel⟩, in_all 277 (by decide +kernel) rfl, in_all 278 (by decide +kernel) rfl, TX3, 11, rfl⟩
theorem lk_X6_220 : LV RX6 220 yX5_copyFrom cX5_copyFrom 2 none 1 5 := ⟨⟨in_all 283 (by decide +kernel) rfl, in_all 39 (by decide +kernel) rfl, in_all 551 (by decide +kernel) rfl, by decide +kernel⟩, in_all 281 (by decide +kernel) rfl, in_all 282 (by decide +kernel) rfl, TX5, 4, rfl⟩
theorem lk_X6_223 : LV RX6 223 yX5_tick cX5_tick 1 none 0 5 := ⟨⟨in_all 322 (by decide +kernel) rfl, in_all 39 (by decide +kernel) rfl, in_all 552 (by decide +kernel) rfl, by decide +kernel⟩, in_all 320 (by decide +kernel) rfl, in_all 321 (by decide +kernel) rfl, TX5, 4, rfl⟩
theorem lk_X6_232 : LkS RX6 232 yX6_bitsOfShare cX6_bitsOfShare 3 (some .int) 1 := ⟨⟨in_all 559 (by decide +kernel) rfl, in_all 37 (by decide +kernel) rfl, in_all 557 (by decide +kernel) rfl, by decide +kernel⟩, in_all 558 (by decide +kernel) rfl⟩
theorem lk_X6_239 : LV RX6 239 yX5_wrongOnes cX5_wrongOnes 3 (some .int) 0 5 := ⟨⟨in_all 569 (by decide +kernel) rfl, in_all 39 (by decide +kernel) rfl, in_all 566 (by decide +kernel) rfl, by decide +kernel⟩, in_all 567 (by decide +kernel) rfl, in_all 568 (by decide +kernel) rfl, TX5, 4, rfl⟩
theorem lk_X6_242 : LV RX6 242 yX0_cameInAll cX0_cameInAll 3 (some .int) 0 0 := ⟨⟨in_all 573 (by decide +kernel) rfl, in_all 41 (by decide +kernel) rfl, in_all 570 (by decide +kernel) rfl, by decide +kernel⟩, in_all 571 (by decide +kernel) rfl, in_all 572 (by decide +kernel) rfl, TX0, 5, rfl⟩
theorem lk_X6_261 : LV RX6 261 yX6_findFault cX6_findFault 3 (some .int) 0 6 := ⟨⟨in_all 594 (by decide +kernel) rfl, in_all 37 (by decide +kernel) rfl, in_all 591 (by decide +kernel) rfl, by decide +kernel⟩, in_all 593 (by decide +kernel) rfl, in_all 1 (by decide +kernel) rfl, TX6, 8, rfl⟩
theorem lk_X6_271 : LV RX6 271 yX4_parse cX4_parse 9 none 3 4 := ⟨⟨in_all 598 (by decide +kernel) rfl, in_all 44 (by decide +kernel) rfl, in_all 595 (by decide +kernel) rfl, by decide +kernel⟩, in_all 596 (by decide +kernel) rfl, in_all 597 (by decide +kernel) rfl, TX4, 4, rfl⟩
theorem lk_X6_282 : LkS RX6 282 yX6_mayDo cX6_mayDo 2 (some .boolean) 1 := ⟨⟨in_all 610 (by decide +kernel) rfl, in_all 37 (by decide +kernel) rfl, in_all 608 (by decide +kernel) rfl, by decide +kernel⟩, in_all 609 (by decide +kernel) rfl⟩
theorem oi_X7_1 : Cond.methodLink RX7 1 objectInit ∈ lw_all := in_all 620 (by decide +kernel) rfl
theorem lk_X7_45 : LkS RX7 45 yX7_in cX7_in 3 (some .boolean) 3 := ⟨⟨in_all 688 (by decide +kernel) rfl, in_all 45 (by decide +kernel) rfl, in_all 686 (by decide +kernel) rfl, by decide +kernel⟩, in_all 687 (by decide +kernel) rfl⟩
theorem lk_X7_49 : LV RX7 49 yX7_number cX7_number 3 (some .int) 1 7 := ⟨⟨in_all 729 (by decide +kernel) rfl, in_all 45 (by decide +kernel) rfl, in_all 726 (by decide +kernel) rfl, by decide +kernel⟩, in_all 728 (by decide +kernel) rfl, in_all 10 (by decide +kernel) rfl, TX7, 19, rfl⟩
theorem lk_X7_53 : LV RX7 53 yX7_monthLength cX7_monthLength 1 (some .int) 0 7 := ⟨⟨in_all 740 (by decide +kernel) rfl, in_all 45 (by decide +kernel) rfl, in_all 737 (by decide +kernel) rfl, by decide +kernel⟩, in_all 739 (by decide +kernel) rfl, in_all 12 (by decide +kernel) rfl, TX7, 19, rfl⟩
theorem lk_X7_57 : LkS RX7 57 yX7_first cX7_first 1 (some .int) 1 := ⟨⟨in_all 732 (by decide +kernel) rfl, in_all 45 (by decide +kernel) rfl, in_all 730 (by decide +kernel) rfl, by decide +kernel⟩, in_all 731 (by decide +kernel) rfl⟩
theorem lk_X7_60 : LV RX7 60 yX7_last cX7_last 2 (some .int) 1 7 := ⟨⟨in_all 736 (by decide +kernel) rfl, in_all 45 (by decide +kernel) rfl, in_all 733 (by decide +kernel) rfl, by decide +kernel⟩, in_all 735 (by decide +kernel) rfl, in_all 11 (by decide +kernel) rfl, TX7, 19, rfl⟩
theorem lk_X7_63 : LV RX7 63 yX7_isWithin cX7_isWithin 5 (some .boolean) 3 7 := ⟨⟨in_all 744 (by decide +kernel) rfl, in_all 45 (by decide +kernel) rfl, in_all 741 (by decide +kernel) rfl, by decide +kernel⟩, in_all 743 (by decide +kernel) rfl, in_all 13 (by decide +kernel) rfl, TX7, 19, rfl⟩
theorem lk_X7_66 : LV RX7 66 yX7_isLeap cX7_isLeap 1 (some .boolean) 0 7 := ⟨⟨in_all 748 (by decide +kernel) rfl, in_all 45 (by decide +kernel) rfl, in_all 745 (by decide +kernel) rfl, by decide +kernel⟩, in_all 747 (by decide +kernel) rfl, in_all 14 (by decide +kernel) rfl, TX7, 19, rfl⟩
theorem lk_X7_70 : LkS RX7 70 yX7_lengthOf cX7_lengthOf 2 (some .int) 2 := ⟨⟨in_all 751 (by decide +kernel) rfl, in_all 45 (by decide +kernel) rfl, in_all 749 (by decide +kernel) rfl, by decide +kernel⟩, in_all 750 (by decide +kernel) rfl⟩
theorem lk_X7_74 : LV RX7 74 yX7_rolls cX7_rolls 2 (some .boolean) 1 7 := ⟨⟨in_all 721 (by decide +kernel) rfl, in_all 45 (by decide +kernel) rfl, in_all 718 (by decide +kernel) rfl, by decide +kernel⟩, in_all 720 (by decide +kernel) rfl, in_all 8 (by decide +kernel) rfl, TX7, 19, rfl⟩
theorem lk_X7_78 : LV RX7 78 yX7_wrong cX7_wrong 3 (some .int) 1 7 := ⟨⟨in_all 725 (by decide +kernel) rfl, in_all 45 (by decide +kernel) rfl, in_all 722 (by decide +kernel) rfl, by decide +kernel⟩, in_all 724 (by decide +kernel) rfl, in_all 9 (by decide +kernel) rfl, TX7, 19, rfl⟩
theorem lk_X7_81 : LV RX7 81 yX7_stepped cX7_stepped 3 (some .int) 1 7 := ⟨⟨in_all 755 (by decide +kernel) rfl, in_all 45 (by decide +kernel) rfl, in_all 752 (by decide +kernel) rfl, by decide +kernel⟩, in_all 754 (by decide +kernel) rfl, in_all 15 (by decide +kernel) rfl, TX7, 19, rfl⟩
theorem lk_X7_84 : LV RX7 84 yX7_puts cX7_puts 4 none 2 7 := ⟨⟨in_all 697 (by decide +kernel) rfl, in_all 45 (by decide +kernel) rfl, in_all 694 (by decide +kernel) rfl, by decide +kernel⟩, in_all 696 (by decide +kernel) rfl, in_all 3 (by decide +kernel) rfl, TX7, 19, rfl⟩
theorem lk_X7_88 : LkS RX7 88 yX7_alarmAt cX7_alarmAt 1 (some .int) 1 := ⟨⟨in_all 758 (by decide +kernel) rfl, in_all 45 (by decide +kernel) rfl, in_all 756 (by decide +kernel) rfl, by decide +kernel⟩, in_all 757 (by decide +kernel) rfl⟩
theorem lk_X7_91 : LV RX7 91 yX7_steps cX7_steps 3 (some .boolean) 1 7 := ⟨⟨in_all 717 (by decide +kernel) rfl, in_all 45 (by decide +kernel) rfl, in_all 714 (by decide +kernel) rfl, by decide +kernel⟩, in_all 716 (by decide +kernel) rfl, in_all 7 (by decide +kernel) rfl, TX7, 19, rfl⟩
theorem lk_X7_94 : LV RX7 94 yX7_matches cX7_matches 5 (some .boolean) 1 7 := ⟨⟨in_all 762 (by decide +kernel) rfl, in_all 45 (by decide +kernel) rfl, in_all 759 (by decide +kernel) rfl, by decide +kernel⟩, in_all 761 (by decide +kernel) rfl, in_all 16 (by decide +kernel) rfl, TX7, 19, rfl⟩
theorem lk_X7_97 : LV RX7 97 yX7_tick cX7_tick 4 none 0 7 := ⟨⟨in_all 713 (by decide +kernel) rfl, in_all 45 (by decide +kernel) rfl, in_all 710 (by decide +kernel) rfl, by decide +kernel⟩, in_all 712 (by decide +kernel) rfl, in_all 6 (by decide +kernel) rfl, TX7, 19, rfl⟩
theorem lk_X7_100 : LV RX7 100 yX7_phase cX7_phase 2 (some .boolean) 0 7 := ⟨⟨in_all 709 (by decide +kernel) rfl, in_all 45 (by decide +kernel) rfl, in_all 706 (by decide +kernel) rfl, by decide +kernel⟩, in_all 708 (by decide +kernel) rfl, in_all 5 (by decide +kernel) rfl, TX7, 19, rfl⟩
theorem lk_X7_103 : LkS RX7 103 yX7_isRegister cX7_isRegister 1 (some .boolean) 1 := ⟨⟨in_all 685 (by decide +kernel) rfl, in_all 45 (by decide +kernel) rfl, in_all 683 (by decide +kernel) rfl, by decide +kernel⟩, in_all 684 (by decide +kernel) rfl⟩
theorem lk_X7_107 : LV RX7 107 yX7_changes cX7_changes 2 none 0 7 := ⟨⟨in_all 693 (by decide +kernel) rfl, in_all 45 (by decide +kernel) rfl, in_all 690 (by decide +kernel) rfl, by decide +kernel⟩, in_all 692 (by decide +kernel) rfl, in_all 2 (by decide +kernel) rfl, TX7, 19, rfl⟩
theorem lk_X7_110 : LV RX7 110 yX7_passes cX7_passes 4 (some .int) 1 7 := ⟨⟨in_all 705 (by decide +kernel) rfl, in_all 45 (by decide +kernel) rfl, in_all 702 (by decide +kernel) rfl, by decide +kernel⟩, in_all 704 (by decide +kernel) rfl, in_all 4 (by decide +kernel) rfl, TX7, 19, rfl⟩
theorem lk_X7_117 : LV RX7 117 yX7_shows cX7_shows 2 none 0 7 := ⟨⟨in_all 779 (by decide +kernel) rfl, in_all 45 (by decide +kernel) rfl, in_all 776 (by decide +kernel) rfl, by decide +kernel⟩, in_all 778 (by decide +kernel) rfl, in_all 19 (by decide +kernel) rfl, TX7, 19, rfl⟩
theorem lk_X7_119 : LV RX7 119 yX7_readsAll cX7_readsAll 4 none 0 7 := ⟨⟨in_all 775 (by decide +kernel) rfl, in_all 45 (by decide +kernel) rfl, in_all 772 (by decide +kernel) rfl, by decide +kernel⟩, in_all 774 (by decide +kernel) rfl, in_all 18 (by decide +kernel) rfl, TX7, 19, rfl⟩
theorem lk_X7_122 : LV RX7 122 yX7_isAsAhead cX7_isAsAhead 3 (some .boolean) 0 7 := ⟨⟨in_all 791 (by decide +kernel) rfl, in_all 45 (by decide +kernel) rfl, in_all 788 (by decide +kernel) rfl, by decide +kernel⟩, in_all 790 (by decide +kernel) rfl, in_all 22 (by decide +kernel) rfl, TX7, 19, rfl⟩
theorem lk_X7_125 : LV RX7 125 yX7_readsAtOnce cX7_readsAtOnce 2 none 0 7 := ⟨⟨in_all 783 (by decide +kernel) rfl, in_all 45 (by decide +kernel) rfl, in_all 780 (by decide +kernel) rfl, by decide +kernel⟩, in_all 782 (by decide +kernel) rfl, in_all 20 (by decide +kernel) rfl, TX7, 19, rfl⟩
theorem lk_X7_128 : LV RX7 128 yX7_readsAgain cX7_readsAgain 4 (some .int) 0 7 := ⟨⟨in_all 787 (by decide +kernel) rfl, in_all 45 (by decide +kernel) rfl, in_all 784 (by decide +kernel) rfl, by decide +kernel⟩, in_all 786 (by decide +kernel) rfl, in_all 21 (by decide +kernel) rfl, TX7, 19, rfl⟩
theorem lk_X7_131 : LV RX7 131 yX7_wasShown cX7_wasShown 4 (some .boolean) 0 7 := ⟨⟨in_all 795 (by decide +kernel) rfl, in_all 45 (by decide +kernel) rfl, in_all 792 (by decide +kernel) rfl, by decide +kernel⟩, in_all 794 (by decide +kernel) rfl, in_all 23 (by decide +kernel) rfl, TX7, 19, rfl⟩
theorem lk_X7_134 : LV RX7 134 yX7_bursts cX7_bursts 5 (some .int) 1 7 := ⟨⟨in_all 771 (by decide +kernel) rfl, in_all 45 (by decide +kernel) rfl, in_all 768 (by decide +kernel) rfl, by decide +kernel⟩, in_all 770 (by decide +kernel) rfl, in_all 17 (by decide +kernel) rfl, TX7, 19, rfl⟩
theorem lk_X7_137 : LkS RX7 137 yX7_isAlarm cX7_isAlarm 1 (some .boolean) 1 := ⟨⟨in_all 806 (by decide +kernel) rfl, in_all 45 (by decide +kernel) rfl, in_all 804 (by decide +kernel) rfl, by decide +kernel⟩, in_all 805 (by decide +kernel) rfl⟩
theorem lk_X7_140 : LV RX7 140 yX7_flags cX7_flags 3 (some .int) 0 7 := ⟨⟨in_all 818 (by decide +kernel) rfl, in_all 45 (by decide +kernel) rfl, in_all 815 (by decide +kernel) rfl, by decide +kernel⟩, in_all 817 (by decide +kernel) rfl, in_all 24 (by decide +kernel) rfl, TX7, 19, rfl⟩
theorem lk_X7_143 : LkS RX7 143 yX7_bits cX7_bits 3 (some .int) 1 := ⟨⟨in_all 834 (by decide +kernel) rfl, in_all 45 (by decide +kernel) rfl, in_all 832 (by decide +kernel) rfl, by decide +kernel⟩, in_all 833 (by decide +kernel) rfl⟩
theorem lk_X7_147 : LV RX7 147 yX7_failed cX7_failed 3 (some .int) 0 7 := ⟨⟨in_all 831 (by decide +kernel) rfl, in_all 45 (by decide +kernel) rfl, in_all 828 (by decide +kernel) rfl, by decide +kernel⟩, in_all 830 (by decide +kernel) rfl, in_all 25 (by decide +kernel) rfl, TX7, 19, rfl⟩
theorem lk_X7_150 : LV RX7 150 yX7_wouldStep cX7_wouldStep 3 (some .int) 1 7 := ⟨⟨in_all 846 (by decide +kernel) rfl, in_all 45 (by decide +kernel) rfl, in_all 843 (by decide +kernel) rfl, by decide +kernel⟩, in_all 845 (by decide +kernel) rfl, in_all 26 (by decide +kernel) rfl, TX7, 19, rfl⟩
theorem lk_X7_153 : LV RX7 153 yX7_daysAhead cX7_daysAhead 4 (some .int) 1 7 := ⟨⟨in_all 862 (by decide +kernel) rfl, in_all 45 (by decide +kernel) rfl, in_all 859 (by decide +kernel) rfl, by decide +kernel⟩, in_all 861 (by decide +kernel) rfl, in_all 28 (by decide +kernel) rfl, TX7, 19, rfl⟩
theorem lk_X7_157 : LV RX7 157 yX7_daysBehind cX7_daysBehind 2 (some .int) 0 7 := ⟨⟨in_all 858 (by decide +kernel) rfl, in_all 45 (by decide +kernel) rfl, in_all 855 (by decide +kernel) rfl, by decide +kernel⟩, in_all 857 (by decide +kernel) rfl, in_all 27 (by decide +kernel) rfl, TX7, 19, rfl⟩
theorem lk_X7_160 : LkS RX7 160 yX7_copies cX7_copies 3 none 2 := ⟨⟨in_all 881 (by decide +kernel) rfl, in_all 45 (by decide +kernel) rfl, in_all 879 (by decide +kernel) rfl, by decide +kernel⟩, in_all 880 (by decide +kernel) rfl⟩
theorem lk_X7_164 : LkS RX7 164 yJxf58ca_floatToIntBits_5c35a cJxf58ca_floatToIntBits_5c35a 1 (some .int) 1 := ⟨⟨in_all 892 (by decide +kernel) rfl, in_all 47 (by decide +kernel) rfl, in_all 890 (by decide +kernel) rfl, by decide +kernel⟩, in_all 891 (by decide +kernel) rfl⟩
theorem lk_X7_170 : LV RX7 170 yX7_wrongOnes cX7_wrongOnes 3 (some .int) 0 7 := ⟨⟨in_all 907 (by decide +kernel) rfl, in_all 45 (by decide +kernel) rfl, in_all 904 (by decide +kernel) rfl, by decide +kernel⟩, in_all 906 (by decide +kernel) rfl, in_all 29 (by decide +kernel) rfl, TX7, 19, rfl⟩
theorem lk_X7_180 : LV RX7 180 yX7_isAt cX7_isAt 3 (some .boolean) 2 7 := ⟨⟨in_all 936 (by decide +kernel) rfl, in_all 45 (by decide +kernel) rfl, in_all 933 (by decide +kernel) rfl, by decide +kernel⟩, in_all 935 (by decide +kernel) rfl, in_all 32 (by decide +kernel) rfl, TX7, 19, rfl⟩
theorem lk_X7_187 : LkS RX7 187 yX7_numbersOf cX7_numbersOf 1 (some .int) 1 := ⟨⟨in_all 939 (by decide +kernel) rfl, in_all 45 (by decide +kernel) rfl, in_all 937 (by decide +kernel) rfl, by decide +kernel⟩, in_all 938 (by decide +kernel) rfl⟩
theorem lk_X7_190 : LV RX7 190 yX7_numbered cX7_numbered 3 (some .boolean) 1 7 := ⟨⟨in_all 943 (by decide +kernel) rfl, in_all 45 (by decide +kernel) rfl, in_all 940 (by decide +kernel) rfl, by decide +kernel⟩, in_all 942 (by decide +kernel) rfl, in_all 33 (by decide +kernel) rfl, TX7, 19, rfl⟩
theorem lk_X7_193 : LV RX7 193 yX7_sign cX7_sign 3 (some .boolean) 1 7 := ⟨⟨in_all 947 (by decide +kernel) rfl, in_all 45 (by decide +kernel) rfl, in_all 944 (by decide +kernel) rfl, by decide +kernel⟩, in_all 946 (by decide +kernel) rfl, in_all 34 (by decide +kernel) rfl, TX7, 19, rfl⟩
theorem lk_X7_196 : LV RX7 196 yX7_write cX7_write 3 (some .int) 2 7 := ⟨⟨in_all 682 (by decide +kernel) rfl, in_all 45 (by decide +kernel) rfl, in_all 952 (by decide +kernel) rfl, by decide +kernel⟩, in_all 680 (by decide +kernel) rfl, in_all 681 (by decide +kernel) rfl, TX7, 19, rfl⟩
theorem lk_X7_200 : LV RX7 200 yX7_read cX7_read 3 (some .int) 1 7 := ⟨⟨in_all 701 (by decide +kernel) rfl, in_all 45 (by decide +kernel) rfl, in_all 953 (by decide +kernel) rfl, by decide +kernel⟩, in_all 699 (by decide +kernel) rfl, in_all 700 (by decide +kernel) rfl, TX7, 19, rfl⟩
theorem lk_X7_203 : LV RX7 203 yX7_burst cX7_burst 2 (some .int) 1 7 := ⟨⟨in_all 767 (by decide +kernel) rfl, in_all 45 (by decide +kernel) rfl, in_all 954 (by decide +kernel) rfl, by decide +kernel⟩, in_all 765 (by decide +kernel) rfl, in_all 766 (by decide +kernel) rfl, TX7, 19, rfl⟩
theorem lk_X7_206 : LV RX7 206 yX7_pass cX7_pass 2 (some .int) 1 7 := ⟨⟨in_all 799 (by decide +kernel) rfl, in_all 45 (by decide +kernel) rfl, in_all 955 (by decide +kernel) rfl, by decide +kernel⟩, in_all 797 (by decide +kernel) rfl, in_all 798 (by decide +kernel) rfl, TX7, 19, rfl⟩
theorem lk_X7_209 : LV RX7 209 yX7_alarm cX7_alarm 5 (some .int) 3 7 := ⟨⟨in_all 803 (by decide +kernel) rfl, in_all 45 (by decide +kernel) rfl, in_all 956 (by decide +kernel) rfl, by decide +kernel⟩, in_all 801 (by decide +kernel) rfl, in_all 802 (by decide +kernel) rfl, TX7, 19, rfl⟩
theorem lk_X7_213 : LV RX7 213 yX7_arm cX7_arm 5 (some .int) 2 7 := ⟨⟨in_all 810 (by decide +kernel) rfl, in_all 45 (by decide +kernel) rfl, in_all 957 (by decide +kernel) rfl, by decide +kernel⟩, in_all 808 (by decide +kernel) rfl, in_all 809 (by decide +kernel) rfl, TX7, 19, rfl⟩
theorem lk_X7_222 : LV RX7 222 yX7_reads cX7_reads 4 (some .boolean) 0 7 := ⟨⟨in_all 932 (by decide +kernel) rfl, in_all 45 (by decide +kernel) rfl, in_all 929 (by decide +kernel) rfl, by decide +kernel⟩, in_all 931 (by decide +kernel) rfl, in_all 31 (by decide +kernel) rfl, TX7, 19, rfl⟩
theorem lk_X7_225 : LV RX7 225 yX7_does cX7_does 1 (some .int) 0 7 := ⟨⟨in_all 951 (by decide +kernel) rfl, in_all 45 (by decide +kernel) rfl, in_all 948 (by decide +kernel) rfl, by decide +kernel⟩, in_all 950 (by decide +kernel) rfl, in_all 35 (by decide +kernel) rfl, TX7, 19, rfl⟩
theorem lk_X7_234 : LV RX7 234 yX7_plays cX7_plays 4 (some .boolean) 0 7 := ⟨⟨in_all 928 (by decide +kernel) rfl, in_all 45 (by decide +kernel) rfl, in_all 925 (by decide +kernel) rfl, by decide +kernel⟩, in_all 927 (by decide +kernel) rfl, in_all 30 (by decide +kernel) rfl, TX7, 19, rfl⟩
theorem oi_i : Cond.instanceMethod objectInit ∈ lw_all := in_all 54 (by decide +kernel) rfl
theorem oi_c : Cond.code objectInit ⟨#[0xb1]⟩ 1 none ∈ lw_all := in_all 55 (by decide +kernel) rfl
theorem sw_X6_129 : Cond.fieldLink RX6 129 RX6 "LEAST_SETTING" "[I" ∈ lw_all := in_all 468 (by decide +kernel) rfl
theorem sw_X6_132 : Cond.fieldLink RX6 132 RX6 "MOST_SETTING" "[I" ∈ lw_all := in_all 470 (by decide +kernel) rfl
