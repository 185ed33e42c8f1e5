/-! by program: what each instruction links, out of the tables -/
theorem ui_X0 : ∀ w, w ∈ u_ws RX0 TX0 5 → w ∈ lw_all := ui_of [74, 76, 78, 80, 82] (by decide +kernel) (by decide +kernel)
theorem ui_X1 : ∀ w, w ∈ u_ws RX1 TX1 4 → w ∈ lw_all := ui_of [162, 164, 166, 168] (by decide +kernel) (by decide +kernel)
theorem ui_X2 : ∀ w, w ∈ u_ws RX2 TX2 3 → w ∈ lw_all := ui_of [96, 98, 100] (by decide +kernel) (by decide +kernel)
theorem ui_X3 : ∀ w, w ∈ u_ws RX3 TX3 11 → w ∈ lw_all := ui_of [127, 129, 131, 133, 135, 137, 139, 141, 143, 145, 147] (by decide +kernel) (by decide +kernel)
theorem ui_X4 : ∀ w, w ∈ u_ws RX4 TX4 4 → w ∈ lw_all := ui_of [178, 180, 182, 184] (by decide +kernel) (by decide +kernel)
theorem ui_X5 : ∀ w, w ∈ u_ws RX5 TX5 4 → w ∈ lw_all := ui_of [46, 48, 50, 52] (by decide +kernel) (by decide +kernel)
theorem ui_X6 : ∀ w, w ∈ u_ws RX6 TX6 8 → w ∈ lw_all := ui_of [196, 198, 200, 202, 204, 206, 208, 210] (by decide +kernel) (by decide +kernel)
theorem fw_X0_11 : Cond.fieldLink RX0 11 (TX0 0).1 (TX0 0).2.1 (TX0 0).2.2.1 ∈ lw_all := in_all 64 (by decide +kernel) rfl
theorem fl_X0_11 : FL RX0 11 0 0 := ⟨RX0, TX0, 5, ui_X0, rfl, by decide, fw_X0_11⟩
theorem fp_X0_11 : FP RX0 11 0 0 (.array (.array .int)) true := ⟨RX0, TX0, 5, tyX0, ui_X0, rfl, by decide, fw_X0_11, tyX0_ok, nmX0, rfl, by decide +kernel, fun h => by first | rfl | cases h⟩
theorem fw_X0_16 : Cond.fieldLink RX0 16 (TX0 1).1 (TX0 1).2.1 (TX0 1).2.2.1 ∈ lw_all := in_all 66 (by decide +kernel) rfl
theorem fl_X0_16 : FL RX0 16 0 1 := ⟨RX0, TX0, 5, ui_X0, rfl, by decide, fw_X0_16⟩
theorem fp_X0_16 : FP RX0 16 0 1 (.array .int) true := ⟨RX0, TX0, 5, tyX0, ui_X0, rfl, by decide, fw_X0_16, tyX0_ok, nmX0, rfl, by decide +kernel, fun h => by first | rfl | cases h⟩
theorem fw_X0_20 : Cond.fieldLink RX0 20 (TX0 2).1 (TX0 2).2.1 (TX0 2).2.2.1 ∈ lw_all := in_all 68 (by decide +kernel) rfl
theorem fl_X0_20 : FL RX0 20 0 2 := ⟨RX0, TX0, 5, ui_X0, rfl, by decide, fw_X0_20⟩
theorem fp_X0_20 : FP RX0 20 0 2 (.array .int) true := ⟨RX0, TX0, 5, tyX0, ui_X0, rfl, by decide, fw_X0_20, tyX0_ok, nmX0, rfl, by decide +kernel, fun h => by first | rfl | cases h⟩
theorem fw_X0_29 : Cond.fieldLink RX0 29 (TX0 3).1 (TX0 3).2.1 (TX0 3).2.2.1 ∈ lw_all := in_all 70 (by decide +kernel) rfl
theorem fl_X0_29 : FL RX0 29 0 3 := ⟨RX0, TX0, 5, ui_X0, rfl, by decide, fw_X0_29⟩
theorem fp_X0_29 : FP RX0 29 0 3 .int false := ⟨RX0, TX0, 5, tyX0, ui_X0, rfl, by decide, fw_X0_29, tyX0_ok, nmX0, rfl, by decide +kernel, fun h => by first | rfl | cases h⟩
theorem fw_X0_33 : Cond.fieldLink RX0 33 (TX0 4).1 (TX0 4).2.1 (TX0 4).2.2.1 ∈ lw_all := in_all 72 (by decide +kernel) rfl
theorem fl_X0_33 : FL RX0 33 0 4 := ⟨RX0, TX0, 5, ui_X0, rfl, by decide, fw_X0_33⟩
theorem fp_X0_33 : FP RX0 33 0 4 .int false := ⟨RX0, TX0, 5, tyX0, ui_X0, rfl, by decide, fw_X0_33, tyX0_ok, nmX0, rfl, by decide +kernel, fun h => by first | rfl | cases h⟩
theorem fw_X0_40 : Cond.fieldLink RX0 40 (TX5 0).1 (TX5 0).2.1 (TX5 0).2.2.1 ∈ lw_all := in_all 39 (by decide +kernel) rfl
theorem fl_X0_40 : FL RX0 40 5 0 := ⟨RX5, TX5, 4, ui_X5, rfl, by decide, fw_X0_40⟩
theorem fw_X1_9 : Cond.fieldLink RX1 9 (TX1 0).1 (TX1 0).2.1 (TX1 0).2.2.1 ∈ lw_all := in_all 157 (by decide +kernel) rfl
theorem fl_X1_9 : FL RX1 9 1 0 := ⟨RX1, TX1, 4, ui_X1, rfl, by decide, fw_X1_9⟩
theorem fp_X1_9 : FP RX1 9 1 0 (.array .int) true := ⟨RX1, TX1, 4, tyX1, ui_X1, rfl, by decide, fw_X1_9, tyX1_ok, nmX1, rfl, by decide +kernel, fun h => by first | rfl | cases h⟩
theorem fw_X1_15 : Cond.fieldLink RX1 15 (TX1 1).1 (TX1 1).2.1 (TX1 1).2.2.1 ∈ lw_all := in_all 159 (by decide +kernel) rfl
theorem fl_X1_15 : FL RX1 15 1 1 := ⟨RX1, TX1, 4, ui_X1, rfl, by decide, fw_X1_15⟩
theorem fp_X1_15 : FP RX1 15 1 1 (.array .int) true := ⟨RX1, TX1, 4, tyX1, ui_X1, rfl, by decide, fw_X1_15, tyX1_ok, nmX1, rfl, by decide +kernel, fun h => by first | rfl | cases h⟩
theorem fw_X1_20 : Cond.fieldLink RX1 20 (TX1 2).1 (TX1 2).2.1 (TX1 2).2.2.1 ∈ lw_all := in_all 160 (by decide +kernel) rfl
theorem fl_X1_20 : FL RX1 20 1 2 := ⟨RX1, TX1, 4, ui_X1, rfl, by decide, fw_X1_20⟩
theorem fp_X1_20 : FP RX1 20 1 2 (.array (.array .int)) true := ⟨RX1, TX1, 4, tyX1, ui_X1, rfl, by decide, fw_X1_20, tyX1_ok, nmX1, rfl, by decide +kernel, fun h => by first | rfl | cases h⟩
theorem fw_X1_23 : Cond.fieldLink RX1 23 (TX3 0).1 (TX3 0).2.1 (TX3 0).2.2.1 ∈ lw_all := in_all 104 (by decide +kernel) rfl
theorem fl_X1_23 : FL RX1 23 3 0 := ⟨RX3, TX3, 11, ui_X3, rfl, by decide, fw_X1_23⟩
theorem fw_X1_33 : Cond.fieldLink RX1 33 (TX3 3).1 (TX3 3).2.1 (TX3 3).2.2.1 ∈ lw_all := in_all 111 (by decide +kernel) rfl
theorem fl_X1_33 : FL RX1 33 3 3 := ⟨RX3, TX3, 11, ui_X3, rfl, by decide, fw_X1_33⟩
theorem fw_X1_62 : Cond.fieldLink RX1 62 (TX1 3).1 (TX1 3).2.1 (TX1 3).2.2.1 ∈ lw_all := in_all 161 (by decide +kernel) rfl
theorem fl_X1_62 : FL RX1 62 1 3 := ⟨RX1, TX1, 4, ui_X1, rfl, by decide, fw_X1_62⟩
theorem fp_X1_62 : FP RX1 62 1 3 .int false := ⟨RX1, TX1, 4, tyX1, ui_X1, rfl, by decide, fw_X1_62, tyX1_ok, nmX1, rfl, by decide +kernel, fun h => by first | rfl | cases h⟩
theorem fw_X1_69 : Cond.fieldLink RX1 69 (TX5 0).1 (TX5 0).2.1 (TX5 0).2.2.1 ∈ lw_all := in_all 37 (by decide +kernel) rfl
theorem fl_X1_69 : FL RX1 69 5 0 := ⟨RX5, TX5, 4, ui_X5, rfl, by decide, fw_X1_69⟩
theorem fw_X2_11 : Cond.fieldLink RX2 11 (TX2 0).1 (TX2 0).2.1 (TX2 0).2.2.1 ∈ lw_all := in_all 92 (by decide +kernel) rfl
theorem fl_X2_11 : FL RX2 11 2 0 := ⟨RX2, TX2, 3, ui_X2, rfl, by decide, fw_X2_11⟩
theorem fp_X2_11 : FP RX2 11 2 0 (.array (.array .int)) true := ⟨RX2, TX2, 3, tyX2, ui_X2, rfl, by decide, fw_X2_11, tyX2_ok, nmX2, rfl, by decide +kernel, fun h => by first | rfl | cases h⟩
theorem fw_X2_22 : Cond.fieldLink RX2 22 (TX2 1).1 (TX2 1).2.1 (TX2 1).2.2.1 ∈ lw_all := in_all 93 (by decide +kernel) rfl
theorem fl_X2_22 : FL RX2 22 2 1 := ⟨RX2, TX2, 3, ui_X2, rfl, by decide, fw_X2_22⟩
theorem fp_X2_22 : FP RX2 22 2 1 .int false := ⟨RX2, TX2, 3, tyX2, ui_X2, rfl, by decide, fw_X2_22, tyX2_ok, nmX2, rfl, by decide +kernel, fun h => by first | rfl | cases h⟩
theorem fw_X2_26 : Cond.fieldLink RX2 26 (TX2 2).1 (TX2 2).2.1 (TX2 2).2.2.1 ∈ lw_all := in_all 94 (by decide +kernel) rfl
theorem fl_X2_26 : FL RX2 26 2 2 := ⟨RX2, TX2, 3, ui_X2, rfl, by decide, fw_X2_26⟩
theorem fp_X2_26 : FP RX2 26 2 2 .int false := ⟨RX2, TX2, 3, tyX2, ui_X2, rfl, by decide, fw_X2_26, tyX2_ok, nmX2, rfl, by decide +kernel, fun h => by first | rfl | cases h⟩
theorem fw_X3_12 : Cond.fieldLink RX3 12 (TX3 0).1 (TX3 0).2.1 (TX3 0).2.2.1 ∈ lw_all := in_all 103 (by decide +kernel) rfl
theorem fl_X3_12 : FL RX3 12 3 0 := ⟨RX3, TX3, 11, ui_X3, rfl, by decide, fw_X3_12⟩
theorem fp_X3_12 : FP RX3 12 3 0 (.object "RollingDigits$Registers") true := ⟨RX3, TX3, 11, tyX3, ui_X3, rfl, by decide, fw_X3_12, tyX3_ok, nmX3, rfl, by decide +kernel, fun h => by first | rfl | cases h⟩
theorem fw_X3_21 : Cond.fieldLink RX3 21 (TX3 1).1 (TX3 1).2.1 (TX3 1).2.2.1 ∈ lw_all := in_all 106 (by decide +kernel) rfl
theorem fl_X3_21 : FL RX3 21 3 1 := ⟨RX3, TX3, 11, ui_X3, rfl, by decide, fw_X3_21⟩
theorem fp_X3_21 : FP RX3 21 3 1 (.object "RollingDigits$Alarms") true := ⟨RX3, TX3, 11, tyX3, ui_X3, rfl, by decide, fw_X3_21, tyX3_ok, nmX3, rfl, by decide +kernel, fun h => by first | rfl | cases h⟩
theorem fw_X3_28 : Cond.fieldLink RX3 28 (TX3 2).1 (TX3 2).2.1 (TX3 2).2.2.1 ∈ lw_all := in_all 108 (by decide +kernel) rfl
theorem fl_X3_28 : FL RX3 28 3 2 := ⟨RX3, TX3, 11, ui_X3, rfl, by decide, fw_X3_28⟩
theorem fp_X3_28 : FP RX3 28 3 2 (.object "RollingDigits$BurstLog") true := ⟨RX3, TX3, 11, tyX3, ui_X3, rfl, by decide, fw_X3_28, tyX3_ok, nmX3, rfl, by decide +kernel, fun h => by first | rfl | cases h⟩
theorem fw_X3_32 : Cond.fieldLink RX3 32 (TX3 3).1 (TX3 3).2.1 (TX3 3).2.2.1 ∈ lw_all := in_all 110 (by decide +kernel) rfl
theorem fl_X3_32 : FL RX3 32 3 3 := ⟨RX3, TX3, 11, ui_X3, rfl, by decide, fw_X3_32⟩
theorem fp_X3_32 : FP RX3 32 3 3 (.array .int) true := ⟨RX3, TX3, 11, tyX3, ui_X3, rfl, by decide, fw_X3_32, tyX3_ok, nmX3, rfl, by decide +kernel, fun h => by first | rfl | cases h⟩
theorem fw_X3_52 : Cond.fieldLink RX3 52 (TX3 4).1 (TX3 4).2.1 (TX3 4).2.2.1 ∈ lw_all := in_all 113 (by decide +kernel) rfl
theorem fl_X3_52 : FL RX3 52 3 4 := ⟨RX3, TX3, 11, ui_X3, rfl, by decide, fw_X3_52⟩
theorem fp_X3_52 : FP RX3 52 3 4 .int false := ⟨RX3, TX3, 11, tyX3, ui_X3, rfl, by decide, fw_X3_52, tyX3_ok, nmX3, rfl, by decide +kernel, fun h => by first | rfl | cases h⟩
theorem fw_X3_56 : Cond.fieldLink RX3 56 (TX3 5).1 (TX3 5).2.1 (TX3 5).2.2.1 ∈ lw_all := in_all 115 (by decide +kernel) rfl
theorem fl_X3_56 : FL RX3 56 3 5 := ⟨RX3, TX3, 11, ui_X3, rfl, by decide, fw_X3_56⟩
theorem fp_X3_56 : FP RX3 56 3 5 .int false := ⟨RX3, TX3, 11, tyX3, ui_X3, rfl, by decide, fw_X3_56, tyX3_ok, nmX3, rfl, by decide +kernel, fun h => by first | rfl | cases h⟩
theorem fw_X3_59 : Cond.fieldLink RX3 59 (TX3 6).1 (TX3 6).2.1 (TX3 6).2.2.1 ∈ lw_all := in_all 117 (by decide +kernel) rfl
theorem fl_X3_59 : FL RX3 59 3 6 := ⟨RX3, TX3, 11, ui_X3, rfl, by decide, fw_X3_59⟩
theorem fp_X3_59 : FP RX3 59 3 6 .int false := ⟨RX3, TX3, 11, tyX3, ui_X3, rfl, by decide, fw_X3_59, tyX3_ok, nmX3, rfl, by decide +kernel, fun h => by first | rfl | cases h⟩
theorem fw_X3_62 : Cond.fieldLink RX3 62 (TX3 7).1 (TX3 7).2.1 (TX3 7).2.2.1 ∈ lw_all := in_all 119 (by decide +kernel) rfl
theorem fl_X3_62 : FL RX3 62 3 7 := ⟨RX3, TX3, 11, ui_X3, rfl, by decide, fw_X3_62⟩
theorem fp_X3_62 : FP RX3 62 3 7 .int false := ⟨RX3, TX3, 11, tyX3, ui_X3, rfl, by decide, fw_X3_62, tyX3_ok, nmX3, rfl, by decide +kernel, fun h => by first | rfl | cases h⟩
theorem fw_X3_65 : Cond.fieldLink RX3 65 (TX3 8).1 (TX3 8).2.1 (TX3 8).2.2.1 ∈ lw_all := in_all 121 (by decide +kernel) rfl
theorem fl_X3_65 : FL RX3 65 3 8 := ⟨RX3, TX3, 11, ui_X3, rfl, by decide, fw_X3_65⟩
theorem fp_X3_65 : FP RX3 65 3 8 .int false := ⟨RX3, TX3, 11, tyX3, ui_X3, rfl, by decide, fw_X3_65, tyX3_ok, nmX3, rfl, by decide +kernel, fun h => by first | rfl | cases h⟩
theorem fw_X3_68 : Cond.fieldLink RX3 68 (TX3 9).1 (TX3 9).2.1 (TX3 9).2.2.1 ∈ lw_all := in_all 123 (by decide +kernel) rfl
theorem fl_X3_68 : FL RX3 68 3 9 := ⟨RX3, TX3, 11, ui_X3, rfl, by decide, fw_X3_68⟩
theorem fp_X3_68 : FP RX3 68 3 9 .int false := ⟨RX3, TX3, 11, tyX3, ui_X3, rfl, by decide, fw_X3_68, tyX3_ok, nmX3, rfl, by decide +kernel, fun h => by first | rfl | cases h⟩
theorem fw_X3_71 : Cond.fieldLink RX3 71 (TX3 10).1 (TX3 10).2.1 (TX3 10).2.2.1 ∈ lw_all := in_all 125 (by decide +kernel) rfl
theorem fl_X3_71 : FL RX3 71 3 10 := ⟨RX3, TX3, 11, ui_X3, rfl, by decide, fw_X3_71⟩
theorem fp_X3_71 : FP RX3 71 3 10 .int false := ⟨RX3, TX3, 11, tyX3, ui_X3, rfl, by decide, fw_X3_71, tyX3_ok, nmX3, rfl, by decide +kernel, fun h => by first | rfl | cases h⟩
theorem fw_X3_84 : Cond.fieldLink RX3 84 (TX5 0).1 (TX5 0).2.1 (TX5 0).2.2.1 ∈ lw_all := in_all 38 (by decide +kernel) rfl
theorem fl_X3_84 : FL RX3 84 5 0 := ⟨RX5, TX5, 4, ui_X5, rfl, by decide, fw_X3_84⟩
theorem fw_X4_9 : Cond.fieldLink RX4 9 (TX4 0).1 (TX4 0).2.1 (TX4 0).2.2.1 ∈ lw_all := in_all 177 (by decide +kernel) rfl
theorem fp_X4_9 : FP RX4 9 4 0 (.array .int) true := ⟨RX4, TX4, 4, tyX4, ui_X4, rfl, by decide, fw_X4_9, tyX4_ok, nmX4, rfl, by decide +kernel, fun h => by first | rfl | cases h⟩
theorem fw_X5_9 : Cond.fieldLink RX5 9 (TX5 0).1 (TX5 0).2.1 (TX5 0).2.2.1 ∈ lw_all := in_all 36 (by decide +kernel) rfl
theorem fl_X5_9 : FL RX5 9 5 0 := ⟨RX5, TX5, 4, ui_X5, rfl, by decide, fw_X5_9⟩
theorem fp_X5_9 : FP RX5 9 5 0 (.array .int) true := ⟨RX5, TX5, 4, tyX5, ui_X5, rfl, by decide, fw_X5_9, tyX5_ok, nmX5, rfl, by decide +kernel, fun h => by first | rfl | cases h⟩
theorem fw_X5_15 : Cond.fieldLink RX5 15 (TX5 1).1 (TX5 1).2.1 (TX5 1).2.2.1 ∈ lw_all := in_all 41 (by decide +kernel) rfl
theorem fl_X5_15 : FL RX5 15 5 1 := ⟨RX5, TX5, 4, ui_X5, rfl, by decide, fw_X5_15⟩
theorem fp_X5_15 : FP RX5 15 5 1 (.array .int) true := ⟨RX5, TX5, 4, tyX5, ui_X5, rfl, by decide, fw_X5_15, tyX5_ok, nmX5, rfl, by decide +kernel, fun h => by first | rfl | cases h⟩
theorem fw_X5_18 : Cond.fieldLink RX5 18 (TX5 2).1 (TX5 2).2.1 (TX5 2).2.2.1 ∈ lw_all := in_all 43 (by decide +kernel) rfl
theorem fl_X5_18 : FL RX5 18 5 2 := ⟨RX5, TX5, 4, ui_X5, rfl, by decide, fw_X5_18⟩
theorem fp_X5_18 : FP RX5 18 5 2 (.array .int) true := ⟨RX5, TX5, 4, tyX5, ui_X5, rfl, by decide, fw_X5_18, tyX5_ok, nmX5, rfl, by decide +kernel, fun h => by first | rfl | cases h⟩
theorem fw_X5_21 : Cond.fieldLink RX5 21 (TX5 3).1 (TX5 3).2.1 (TX5 3).2.2.1 ∈ lw_all := in_all 44 (by decide +kernel) rfl
theorem fl_X5_21 : FL RX5 21 5 3 := ⟨RX5, TX5, 4, ui_X5, rfl, by decide, fw_X5_21⟩
theorem fp_X5_21 : FP RX5 21 5 3 (.array .int) true := ⟨RX5, TX5, 4, tyX5, ui_X5, rfl, by decide, fw_X5_21, tyX5_ok, nmX5, rfl, by decide +kernel, fun h => by first | rfl | cases h⟩
theorem fw_X6_10 : Cond.fieldLink RX6 10 (TX6 0).1 (TX6 0).2.1 (TX6 0).2.2.1 ∈ lw_all := in_all 188 (by decide +kernel) rfl
theorem fl_X6_10 : FL RX6 10 6 0 := ⟨RX6, TX6, 8, ui_X6, rfl, by decide, fw_X6_10⟩
theorem fp_X6_10 : FP RX6 10 6 0 (.object "RollingDigits$Chip") true := ⟨RX6, TX6, 8, tyX6, ui_X6, rfl, by decide, fw_X6_10, tyX6_ok, nmX6, rfl, by decide +kernel, fun h => by first | rfl | cases h⟩
theorem fw_X6_16 : Cond.fieldLink RX6 16 (TX6 1).1 (TX6 1).2.1 (TX6 1).2.2.1 ∈ lw_all := in_all 189 (by decide +kernel) rfl
theorem fp_X6_16 : FP RX6 16 6 1 (.object "RollingDigits$Chip") true := ⟨RX6, TX6, 8, tyX6, ui_X6, rfl, by decide, fw_X6_16, tyX6_ok, nmX6, rfl, by decide +kernel, fun h => by first | rfl | cases h⟩
theorem fw_X6_22 : Cond.fieldLink RX6 22 (TX6 2).1 (TX6 2).2.1 (TX6 2).2.2.1 ∈ lw_all := in_all 190 (by decide +kernel) rfl
theorem fl_X6_22 : FL RX6 22 6 2 := ⟨RX6, TX6, 8, ui_X6, rfl, by decide, fw_X6_22⟩
theorem fp_X6_22 : FP RX6 22 6 2 (.object "RollingDigits$Burst") true := ⟨RX6, TX6, 8, tyX6, ui_X6, rfl, by decide, fw_X6_22, tyX6_ok, nmX6, rfl, by decide +kernel, fun h => by first | rfl | cases h⟩
theorem fw_X6_29 : Cond.fieldLink RX6 29 (TX6 3).1 (TX6 3).2.1 (TX6 3).2.2.1 ∈ lw_all := in_all 191 (by decide +kernel) rfl
theorem fp_X6_29 : FP RX6 29 6 3 (.object "RollingDigits$Order") true := ⟨RX6, TX6, 8, tyX6, ui_X6, rfl, by decide, fw_X6_29, tyX6_ok, nmX6, rfl, by decide +kernel, fun h => by first | rfl | cases h⟩
theorem fw_X6_33 : Cond.fieldLink RX6 33 (TX6 4).1 (TX6 4).2.1 (TX6 4).2.2.1 ∈ lw_all := in_all 192 (by decide +kernel) rfl
theorem fl_X6_33 : FL RX6 33 6 4 := ⟨RX6, TX6, 8, ui_X6, rfl, by decide, fw_X6_33⟩
theorem fp_X6_33 : FP RX6 33 6 4 (.array (.object "RollingDigits$Chip")) true := ⟨RX6, TX6, 8, tyX6, ui_X6, rfl, by decide, fw_X6_33, tyX6_ok, nmX6, rfl, by decide +kernel, fun h => by first | rfl | cases h⟩
theorem fw_X6_37 : Cond.fieldLink RX6 37 (TX6 6).1 (TX6 6).2.1 (TX6 6).2.2.1 ∈ lw_all := in_all 194 (by decide +kernel) rfl
theorem fp_X6_37 : FP RX6 37 6 6 (.array .char) true := ⟨RX6, TX6, 8, tyX6, ui_X6, rfl, by decide, fw_X6_37, tyX6_ok, nmX6, rfl, by decide +kernel, fun h => by first | rfl | cases h⟩
theorem fw_X6_68 : Cond.fieldLink RX6 68 (TX1 0).1 (TX1 0).2.1 (TX1 0).2.2.1 ∈ lw_all := in_all 158 (by decide +kernel) rfl
theorem fl_X6_68 : FL RX6 68 1 0 := ⟨RX1, TX1, 4, ui_X1, rfl, by decide, fw_X6_68⟩
theorem fw_X6_82 : Cond.fieldLink RX6 82 (TX3 1).1 (TX3 1).2.1 (TX3 1).2.2.1 ∈ lw_all := in_all 107 (by decide +kernel) rfl
theorem fl_X6_82 : FL RX6 82 3 1 := ⟨RX3, TX3, 11, ui_X3, rfl, by decide, fw_X6_82⟩
theorem fw_X6_101 : Cond.fieldLink RX6 101 (TX0 4).1 (TX0 4).2.1 (TX0 4).2.2.1 ∈ lw_all := in_all 73 (by decide +kernel) rfl
theorem fl_X6_101 : FL RX6 101 0 4 := ⟨RX0, TX0, 5, ui_X0, rfl, by decide, fw_X6_101⟩
theorem fp_X6_101 : FP RX6 101 0 4 .int false := ⟨RX0, TX0, 5, tyX0, ui_X0, rfl, by decide, fw_X6_101, tyX0_ok, nmX0, rfl, by decide +kernel, fun h => by first | rfl | cases h⟩
theorem fw_X6_108 : Cond.fieldLink RX6 108 (TX3 0).1 (TX3 0).2.1 (TX3 0).2.2.1 ∈ lw_all := in_all 105 (by decide +kernel) rfl
theorem fl_X6_108 : FL RX6 108 3 0 := ⟨RX3, TX3, 11, ui_X3, rfl, by decide, fw_X6_108⟩
theorem fw_X6_141 : Cond.fieldLink RX6 141 (TX5 0).1 (TX5 0).2.1 (TX5 0).2.2.1 ∈ lw_all := in_all 40 (by decide +kernel) rfl
theorem fl_X6_141 : FL RX6 141 5 0 := ⟨RX5, TX5, 4, ui_X5, rfl, by decide, fw_X6_141⟩
theorem fw_X6_150 : Cond.fieldLink RX6 150 (TX5 1).1 (TX5 1).2.1 (TX5 1).2.2.1 ∈ lw_all := in_all 42 (by decide +kernel) rfl
theorem fl_X6_150 : FL RX6 150 5 1 := ⟨RX5, TX5, 4, ui_X5, rfl, by decide, fw_X6_150⟩
theorem fw_X6_153 : Cond.fieldLink RX6 153 (TX5 3).1 (TX5 3).2.1 (TX5 3).2.2.1 ∈ lw_all := in_all 45 (by decide +kernel) rfl
theorem fl_X6_153 : FL RX6 153 5 3 := ⟨RX5, TX5, 4, ui_X5, rfl, by decide, fw_X6_153⟩
theorem fw_X6_162 : Cond.fieldLink RX6 162 (TX0 0).1 (TX0 0).2.1 (TX0 0).2.2.1 ∈ lw_all := in_all 65 (by decide +kernel) rfl
theorem fl_X6_162 : FL RX6 162 0 0 := ⟨RX0, TX0, 5, ui_X0, rfl, by decide, fw_X6_162⟩
theorem fw_X6_165 : Cond.fieldLink RX6 165 (TX0 1).1 (TX0 1).2.1 (TX0 1).2.2.1 ∈ lw_all := in_all 67 (by decide +kernel) rfl
theorem fl_X6_165 : FL RX6 165 0 1 := ⟨RX0, TX0, 5, ui_X0, rfl, by decide, fw_X6_165⟩
theorem fw_X6_168 : Cond.fieldLink RX6 168 (TX0 3).1 (TX0 3).2.1 (TX0 3).2.2.1 ∈ lw_all := in_all 71 (by decide +kernel) rfl
theorem fl_X6_168 : FL RX6 168 0 3 := ⟨RX0, TX0, 5, ui_X0, rfl, by decide, fw_X6_168⟩
theorem fw_X6_174 : Cond.fieldLink RX6 174 (TX0 2).1 (TX0 2).2.1 (TX0 2).2.2.1 ∈ lw_all := in_all 69 (by decide +kernel) rfl
theorem fl_X6_174 : FL RX6 174 0 2 := ⟨RX0, TX0, 5, ui_X0, rfl, by decide, fw_X6_174⟩
theorem fw_X6_198 : Cond.fieldLink RX6 198 (TX3 2).1 (TX3 2).2.1 (TX3 2).2.2.1 ∈ lw_all := in_all 109 (by decide +kernel) rfl
theorem fl_X6_198 : FL RX6 198 3 2 := ⟨RX3, TX3, 11, ui_X3, rfl, by decide, fw_X6_198⟩
theorem fw_X6_202 : Cond.fieldLink RX6 202 (TX2 2).1 (TX2 2).2.1 (TX2 2).2.2.1 ∈ lw_all := in_all 95 (by decide +kernel) rfl
theorem fl_X6_202 : FL RX6 202 2 2 := ⟨RX2, TX2, 3, ui_X2, rfl, by decide, fw_X6_202⟩
theorem fw_X6_210 : Cond.fieldLink RX6 210 (TX3 3).1 (TX3 3).2.1 (TX3 3).2.2.1 ∈ lw_all := in_all 112 (by decide +kernel) rfl
theorem fl_X6_210 : FL RX6 210 3 3 := ⟨RX3, TX3, 11, ui_X3, rfl, by decide, fw_X6_210⟩
theorem fw_X6_213 : Cond.fieldLink RX6 213 (TX3 4).1 (TX3 4).2.1 (TX3 4).2.2.1 ∈ lw_all := in_all 114 (by decide +kernel) rfl
theorem fl_X6_213 : FL RX6 213 3 4 := ⟨RX3, TX3, 11, ui_X3, rfl, by decide, fw_X6_213⟩
theorem fw_X6_226 : Cond.fieldLink RX6 226 (TX3 9).1 (TX3 9).2.1 (TX3 9).2.2.1 ∈ lw_all := in_all 124 (by decide +kernel) rfl
theorem fl_X6_226 : FL RX6 226 3 9 := ⟨RX3, TX3, 11, ui_X3, rfl, by decide, fw_X6_226⟩
theorem fw_X6_229 : Cond.fieldLink RX6 229 (TX3 10).1 (TX3 10).2.1 (TX3 10).2.2.1 ∈ lw_all := in_all 126 (by decide +kernel) rfl
theorem fl_X6_229 : FL RX6 229 3 10 := ⟨RX3, TX3, 11, ui_X3, rfl, by decide, fw_X6_229⟩
theorem fw_X6_236 : Cond.fieldLink RX6 236 (TX3 5).1 (TX3 5).2.1 (TX3 5).2.2.1 ∈ lw_all := in_all 116 (by decide +kernel) rfl
theorem fl_X6_236 : FL RX6 236 3 5 := ⟨RX3, TX3, 11, ui_X3, rfl, by decide, fw_X6_236⟩
theorem fw_X6_245 : Cond.fieldLink RX6 245 (TX3 7).1 (TX3 7).2.1 (TX3 7).2.2.1 ∈ lw_all := in_all 120 (by decide +kernel) rfl
theorem fl_X6_245 : FL RX6 245 3 7 := ⟨RX3, TX3, 11, ui_X3, rfl, by decide, fw_X6_245⟩
theorem fw_X6_248 : Cond.fieldLink RX6 248 (TX3 8).1 (TX3 8).2.1 (TX3 8).2.2.1 ∈ lw_all := in_all 122 (by decide +kernel) rfl
theorem fl_X6_248 : FL RX6 248 3 8 := ⟨RX3, TX3, 11, ui_X3, rfl, by decide, fw_X6_248⟩
theorem fw_X6_251 : Cond.fieldLink RX6 251 (TX3 6).1 (TX3 6).2.1 (TX3 6).2.2.1 ∈ lw_all := in_all 118 (by decide +kernel) rfl
theorem fl_X6_251 : FL RX6 251 3 6 := ⟨RX3, TX3, 11, ui_X3, rfl, by decide, fw_X6_251⟩
theorem fw_X6_254 : Cond.fieldLink RX6 254 (TX6 5).1 (TX6 5).2.1 (TX6 5).2.2.1 ∈ lw_all := in_all 193 (by decide +kernel) rfl
theorem fl_X6_254 : FL RX6 254 6 5 := ⟨RX6, TX6, 8, ui_X6, rfl, by decide, fw_X6_254⟩
theorem fp_X6_254 : FP RX6 254 6 5 .int false := ⟨RX6, TX6, 8, tyX6, ui_X6, rfl, by decide, fw_X6_254, tyX6_ok, nmX6, rfl, by decide +kernel, fun h => by first | rfl | cases h⟩
theorem fw_X6_257 : Cond.fieldLink RX6 257 (TX6 7).1 (TX6 7).2.1 (TX6 7).2.2.1 ∈ lw_all := in_all 195 (by decide +kernel) rfl
theorem fl_X6_257 : FL RX6 257 6 7 := ⟨RX6, TX6, 8, ui_X6, rfl, by decide, fw_X6_257⟩
theorem kc_J6_265 : Cond.constant RJ6 265 (1431655765) ∈ lw_all := in_all 302 (by decide +kernel) rfl
theorem kc_J6_266 : Cond.constant RJ6 266 (858993459) ∈ lw_all := in_all 303 (by decide +kernel) rfl
theorem kc_J6_267 : Cond.constant RJ6 267 (252645135) ∈ lw_all := in_all 304 (by decide +kernel) rfl
theorem kc_L_7 : Cond.constant RL 7 (40503) ∈ lw_all := in_all 217 (by decide +kernel) rfl
theorem kc_L_8 : Cond.constant RL 8 (2147483647) ∈ lw_all := in_all 560 (by decide +kernel) rfl
theorem kc_L_62 : Cond.constant RL 62 (-1000001) ∈ lw_all := in_all 487 (by decide +kernel) rfl
theorem kc_L_112 : Cond.constant RL 112 (-1000002) ∈ lw_all := in_all 539 (by decide +kernel) rfl
theorem kc_X6_45 : Cond.constant RX6 45 (-1000001) ∈ lw_all := in_all 255 (by decide +kernel) rfl
theorem kc_X6_117 : Cond.constant RX6 117 (-1000002) ∈ lw_all := in_all 534 (by decide +kernel) rfl
theorem kc_X6_185 : Cond.constant RX6 185 (-1000004) ∈ lw_all := in_all 313 (by decide +kernel) rfl
theorem lk_L_9 : LkS RL 9 yL_number cL_number 1 (some .int) 1 := ⟨⟨in_all 226 (by decide +kernel) rfl, in_all 1 (by decide +kernel) rfl, in_all 224 (by decide +kernel) rfl, by decide +kernel⟩, in_all 225 (by decide +kernel) rfl⟩
theorem lk_L_15 : LkS RL 15 yL_isCode cL_isCode 3 (some .boolean) 3 := ⟨⟨in_all 223 (by decide +kernel) rfl, in_all 1 (by decide +kernel) rfl, in_all 221 (by decide +kernel) rfl, by decide +kernel⟩, in_all 222 (by decide +kernel) rfl⟩
theorem lk_L_19 : LkS RL 19 yL_month cL_month 3 (some .int) 1 := ⟨⟨in_all 235 (by decide +kernel) rfl, in_all 1 (by decide +kernel) rfl, in_all 233 (by decide +kernel) rfl, by decide +kernel⟩, in_all 234 (by decide +kernel) rfl⟩
theorem lk_L_23 : LkS RL 23 yL_least cL_least 1 (some .int) 1 := ⟨⟨in_all 229 (by decide +kernel) rfl, in_all 1 (by decide +kernel) rfl, in_all 227 (by decide +kernel) rfl, by decide +kernel⟩, in_all 228 (by decide +kernel) rfl⟩
theorem lk_L_26 : LkS RL 26 yL_most cL_most 2 (some .int) 2 := ⟨⟨in_all 232 (by decide +kernel) rfl, in_all 1 (by decide +kernel) rfl, in_all 230 (by decide +kernel) rfl, by decide +kernel⟩, in_all 231 (by decide +kernel) rfl⟩
theorem lk_L_30 : LkS RL 30 yL_next cL_next 3 (some .int) 2 := ⟨⟨in_all 238 (by decide +kernel) rfl, in_all 1 (by decide +kernel) rfl, in_all 236 (by decide +kernel) rfl, by decide +kernel⟩, in_all 237 (by decide +kernel) rfl⟩
theorem lk_L_33 : LkS RL 33 yL_put cL_put 7 none 5 := ⟨⟨in_all 241 (by decide +kernel) rfl, in_all 1 (by decide +kernel) rfl, in_all 239 (by decide +kernel) rfl, by decide +kernel⟩, in_all 240 (by decide +kernel) rfl⟩
theorem lk_L_37 : LkS RL 37 yL_step cL_step 6 (some .boolean) 5 := ⟨⟨in_all 399 (by decide +kernel) rfl, in_all 1 (by decide +kernel) rfl, in_all 397 (by decide +kernel) rfl, by decide +kernel⟩, in_all 398 (by decide +kernel) rfl⟩
theorem lk_L_41 : LkS RL 41 yL_matches cL_matches 4 (some .boolean) 3 := ⟨⟨in_all 355 (by decide +kernel) rfl, in_all 1 (by decide +kernel) rfl, in_all 353 (by decide +kernel) rfl, by decide +kernel⟩, in_all 354 (by decide +kernel) rfl⟩
theorem lk_L_45 : LkS RL 45 yL_phase cL_phase 8 (some .boolean) 6 := ⟨⟨in_all 396 (by decide +kernel) rfl, in_all 1 (by decide +kernel) rfl, in_all 394 (by decide +kernel) rfl, by decide +kernel⟩, in_all 395 (by decide +kernel) rfl⟩
theorem lk_L_49 : LkS RL 49 yL_reads cL_reads 14 (some .boolean) 8 := ⟨⟨in_all 436 (by decide +kernel) rfl, in_all 1 (by decide +kernel) rfl, in_all 434 (by decide +kernel) rfl, by decide +kernel⟩, in_all 435 (by decide +kernel) rfl⟩
theorem lk_L_53 : LV RL 53 yX6_burst cX6_burst 2 (some .int) 1 6 := ⟨⟨in_all 440 (by decide +kernel) rfl, in_all 2 (by decide +kernel) rfl, in_all 437 (by decide +kernel) rfl, by decide +kernel⟩, in_all 438 (by decide +kernel) rfl, in_all 439 (by decide +kernel) rfl, TX6, 8, rfl⟩
theorem lk_L_58 : LV RL 58 yX6_log cX6_log 3 (some .int) 2 6 := ⟨⟨in_all 482 (by decide +kernel) rfl, in_all 2 (by decide +kernel) rfl, in_all 479 (by decide +kernel) rfl, by decide +kernel⟩, in_all 480 (by decide +kernel) rfl, in_all 481 (by decide +kernel) rfl, TX6, 8, rfl⟩
theorem lk_L_63 : LkS RL 63 yL_bits cL_bits 3 (some .int) 1 := ⟨⟨in_all 244 (by decide +kernel) rfl, in_all 1 (by decide +kernel) rfl, in_all 242 (by decide +kernel) rfl, by decide +kernel⟩, in_all 243 (by decide +kernel) rfl⟩
theorem lk_L_66 : LV RL 66 yX6_registerOf cX6_registerOf 5 (some .int) 2 6 := ⟨⟨in_all 248 (by decide +kernel) rfl, in_all 2 (by decide +kernel) rfl, in_all 245 (by decide +kernel) rfl, by decide +kernel⟩, in_all 246 (by decide +kernel) rfl, in_all 247 (by decide +kernel) rfl, TX6, 8, rfl⟩
theorem lk_L_69 : LV RL 69 yX6_count cX6_count 2 (some .int) 1 6 := ⟨⟨in_all 285 (by decide +kernel) rfl, in_all 2 (by decide +kernel) rfl, in_all 282 (by decide +kernel) rfl, by decide +kernel⟩, in_all 283 (by decide +kernel) rfl, in_all 284 (by decide +kernel) rfl, TX6, 8, rfl⟩
theorem lk_L_72 : LV RL 72 yX6_date cX6_date 3 (some .int) 1 6 := ⟨⟨in_all 308 (by decide +kernel) rfl, in_all 2 (by decide +kernel) rfl, in_all 305 (by decide +kernel) rfl, by decide +kernel⟩, in_all 306 (by decide +kernel) rfl, in_all 307 (by decide +kernel) rfl, TX6, 8, rfl⟩
theorem lk_L_75 : LV RL 75 yX6_alarmOf cX6_alarmOf 4 (some .int) 2 6 := ⟨⟨in_all 341 (by decide +kernel) rfl, in_all 2 (by decide +kernel) rfl, in_all 338 (by decide +kernel) rfl, by decide +kernel⟩, in_all 339 (by decide +kernel) rfl, in_all 340 (by decide +kernel) rfl, TX6, 8, rfl⟩
theorem lk_L_78 : LV RL 78 yX6_write cX6_write 3 (some .int) 2 6 := ⟨⟨in_all 362 (by decide +kernel) rfl, in_all 2 (by decide +kernel) rfl, in_all 359 (by decide +kernel) rfl, by decide +kernel⟩, in_all 360 (by decide +kernel) rfl, in_all 361 (by decide +kernel) rfl, TX6, 8, rfl⟩
theorem lk_L_81 : LV RL 81 yX6_read cX6_read 2 (some .int) 1 6 := ⟨⟨in_all 403 (by decide +kernel) rfl, in_all 2 (by decide +kernel) rfl, in_all 400 (by decide +kernel) rfl, by decide +kernel⟩, in_all 401 (by decide +kernel) rfl, in_all 402 (by decide +kernel) rfl, TX6, 8, rfl⟩
theorem lk_L_84 : LkS RL 84 yL_isBurst cL_isBurst 14 (some .boolean) 10 := ⟨⟨in_all 433 (by decide +kernel) rfl, in_all 1 (by decide +kernel) rfl, in_all 431 (by decide +kernel) rfl, by decide +kernel⟩, in_all 432 (by decide +kernel) rfl⟩
theorem lk_L_88 : LV RL 88 yX6_pass cX6_pass 2 (some .int) 1 6 := ⟨⟨in_all 491 (by decide +kernel) rfl, in_all 2 (by decide +kernel) rfl, in_all 488 (by decide +kernel) rfl, by decide +kernel⟩, in_all 489 (by decide +kernel) rfl, in_all 490 (by decide +kernel) rfl, TX6, 8, rfl⟩
theorem lk_L_91 : LV RL 91 yX6_alarm cX6_alarm 4 (some .int) 3 6 := ⟨⟨in_all 499 (by decide +kernel) rfl, in_all 2 (by decide +kernel) rfl, in_all 496 (by decide +kernel) rfl, by decide +kernel⟩, in_all 497 (by decide +kernel) rfl, in_all 498 (by decide +kernel) rfl, TX6, 8, rfl⟩
theorem lk_L_95 : LV RL 95 yX6_arm cX6_arm 3 (some .int) 2 6 := ⟨⟨in_all 510 (by decide +kernel) rfl, in_all 2 (by decide +kernel) rfl, in_all 507 (by decide +kernel) rfl, by decide +kernel⟩, in_all 508 (by decide +kernel) rfl, in_all 509 (by decide +kernel) rfl, TX6, 8, rfl⟩
theorem lk_L_98 : LV RL 98 yX6_clear cX6_clear 2 (some .int) 0 6 := ⟨⟨in_all 518 (by decide +kernel) rfl, in_all 2 (by decide +kernel) rfl, in_all 515 (by decide +kernel) rfl, by decide +kernel⟩, in_all 516 (by decide +kernel) rfl, in_all 517 (by decide +kernel) rfl, TX6, 8, rfl⟩
theorem lk_L_102 : LkS RL 102 yL_isCell cL_isCell 11 (some .boolean) 8 := ⟨⟨in_all 521 (by decide +kernel) rfl, in_all 1 (by decide +kernel) rfl, in_all 519 (by decide +kernel) rfl, by decide +kernel⟩, in_all 520 (by decide +kernel) rfl⟩
theorem lk_L_106 : LV RL 106 yX6_set cX6_set 3 (some .int) 2 6 := ⟨⟨in_all 551 (by decide +kernel) rfl, in_all 2 (by decide +kernel) rfl, in_all 548 (by decide +kernel) rfl, by decide +kernel⟩, in_all 549 (by decide +kernel) rfl, in_all 550 (by decide +kernel) rfl, TX6, 8, rfl⟩
theorem lk_L_109 : LV RL 109 yX6_fail cX6_fail 4 (some .int) 3 6 := ⟨⟨in_all 525 (by decide +kernel) rfl, in_all 2 (by decide +kernel) rfl, in_all 522 (by decide +kernel) rfl, by decide +kernel⟩, in_all 523 (by decide +kernel) rfl, in_all 524 (by decide +kernel) rfl, TX6, 8, rfl⟩
theorem lk_L_113 : LV RL 113 yX6_heal cX6_heal 3 (some .int) 2 6 := ⟨⟨in_all 543 (by decide +kernel) rfl, in_all 2 (by decide +kernel) rfl, in_all 540 (by decide +kernel) rfl, by decide +kernel⟩, in_all 541 (by decide +kernel) rfl, in_all 542 (by decide +kernel) rfl, TX6, 8, rfl⟩
theorem lk_L_116 : LI RL 116 yX6_init cX6_init 2 0 := ⟨⟨in_all 15 (by decide +kernel) rfl, in_all 2 (by decide +kernel) rfl, in_all 13 (by decide +kernel) rfl, by decide +kernel⟩, rfl, in_all 14 (by decide +kernel) rfl⟩
theorem lk_L_117 : LkS RL 117 yL_cell cL_cell 2 (some .int) 2 := ⟨⟨in_all 216 (by decide +kernel) rfl, in_all 1 (by decide +kernel) rfl, in_all 214 (by decide +kernel) rfl, by decide +kernel⟩, in_all 215 (by decide +kernel) rfl⟩
theorem lk_L_120 : LkS RL 120 yL_isActed cL_isActed 16 (some .boolean) 11 := ⟨⟨in_all 358 rfl rfl, in_all 1 (by decide +kernel) rfl, in_all 356 (by decide +kernel) rfl, by decide +kernel⟩, in_all 357 (by decide +kernel) rfl⟩
theorem lk_L_124 : LkS RL 124 yL_areRegisters cL_areRegisters 12 (some .boolean) 6 := ⟨⟨in_all 220 (by decide +kernel) rfl, in_all 1 (by decide +kernel) rfl, in_all 218 (by decide +kernel) rfl, by decide +kernel⟩, in_all 219 (by decide +kernel) rfl⟩
theorem lk_L_128 : LkS RL 128 yL_areAlarms cL_areAlarms 8 (some .boolean) 4 := ⟨⟨in_all 337 (by decide +kernel) rfl, in_all 1 (by decide +kernel) rfl, in_all 335 (by decide +kernel) rfl, by decide +kernel⟩, in_all 336 (by decide +kernel) rfl⟩
theorem oi_X0_3 : Cond.methodLink RX0 3 objectInit ∈ lw_all := in_all 61 (by decide +kernel) rfl
theorem ac_X0_23 : AC RX0 23 := ⟨in_all 382 (by decide +kernel) rfl, in_all 35 (by decide +kernel) rfl, in_all 34 (by decide +kernel) rfl, in_all 5 (by decide +kernel) rfl⟩
theorem lkN_X6_bitOf : LBN yX6_bitOf cX6_bitOf 2 (some .int) 2 := ⟨in_all 347 (by decide +kernel) rfl, in_all 2 (by decide +kernel) rfl, in_all 346 (by decide +kernel) rfl, by decide +kernel⟩
theorem lk_X0_44 : LV RX0 44 yX0_matches cX0_matches 5 (some .boolean) 2 0 := ⟨⟨in_all 351 (by decide +kernel) rfl, in_all 6 (by decide +kernel) rfl, in_all 430 (by decide +kernel) rfl, by decide +kernel⟩, in_all 349 (by decide +kernel) rfl, in_all 350 (by decide +kernel) rfl, TX0, 5, rfl⟩
theorem oi_X1_3 : Cond.methodLink RX1 3 objectInit ∈ lw_all := in_all 155 (by decide +kernel) rfl
theorem lk_X1_29 : LV RX1 29 yX1_seeAtOnce cX1_seeAtOnce 2 none 1 1 := ⟨⟨in_all 451 (by decide +kernel) rfl, in_all 8 (by decide +kernel) rfl, in_all 448 (by decide +kernel) rfl, by decide +kernel⟩, in_all 449 (by decide +kernel) rfl, in_all 450 (by decide +kernel) rfl, TX1, 4, rfl⟩
theorem lk_X1_36 : LV RX1 36 yX3_passPhases cX3_passPhases 4 (some .int) 1 3 := ⟨⟨in_all 411 (by decide +kernel) rfl, in_all 3 (by decide +kernel) rfl, in_all 457 (by decide +kernel) rfl, by decide +kernel⟩, in_all 409 (by decide +kernel) rfl, in_all 410 (by decide +kernel) rfl, TX3, 11, rfl⟩
theorem lk_X1_40 : LV RX1 40 yX1_readInTurn cX1_readInTurn 5 none 1 1 := ⟨⟨in_all 461 (by decide +kernel) rfl, in_all 8 (by decide +kernel) rfl, in_all 458 (by decide +kernel) rfl, by decide +kernel⟩, in_all 459 (by decide +kernel) rfl, in_all 460 (by decide +kernel) rfl, TX1, 4, rfl⟩
theorem ac_X1_44 : AC RX1 44 := ⟨in_all 456 (by decide +kernel) rfl, in_all 35 (by decide +kernel) rfl, in_all 34 (by decide +kernel) rfl, in_all 5 (by decide +kernel) rfl⟩
theorem lk_X1_50 : LV RX1 50 yX1_isTold cX1_isTold 3 (some .boolean) 1 1 := ⟨⟨in_all 466 (by decide +kernel) rfl, in_all 8 (by decide +kernel) rfl, in_all 463 (by decide +kernel) rfl, by decide +kernel⟩, in_all 464 (by decide +kernel) rfl, in_all 465 (by decide +kernel) rfl, TX1, 4, rfl⟩
theorem lk_X1_54 : LV RX1 54 yX1_isTorn cX1_isTorn 2 (some .boolean) 0 1 := ⟨⟨in_all 470 (by decide +kernel) rfl, in_all 8 (by decide +kernel) rfl, in_all 467 (by decide +kernel) rfl, by decide +kernel⟩, in_all 468 (by decide +kernel) rfl, in_all 469 (by decide +kernel) rfl, TX1, 4, rfl⟩
theorem lk_X1_58 : LV RX1 58 yX3_logBurst cX3_logBurst 2 none 1 3 := ⟨⟨in_all 474 (by decide +kernel) rfl, in_all 3 (by decide +kernel) rfl, in_all 471 (by decide +kernel) rfl, by decide +kernel⟩, in_all 472 (by decide +kernel) rfl, in_all 473 (by decide +kernel) rfl, TX3, 11, rfl⟩
theorem lk_X1_66 : LV RX1 66 yX1_keepShown cX1_keepShown 2 none 1 1 := ⟨⟨in_all 455 (by decide +kernel) rfl, in_all 8 (by decide +kernel) rfl, in_all 452 (by decide +kernel) rfl, by decide +kernel⟩, in_all 453 (by decide +kernel) rfl, in_all 454 (by decide +kernel) rfl, TX1, 4, rfl⟩
theorem lk_X1_74 : LV RX1 74 yX3_passPhase cX3_passPhase 1 (some .boolean) 0 3 := ⟨⟨in_all 415 (by decide +kernel) rfl, in_all 3 (by decide +kernel) rfl, in_all 462 (by decide +kernel) rfl, by decide +kernel⟩, in_all 413 (by decide +kernel) rfl, in_all 414 (by decide +kernel) rfl, TX3, 11, rfl⟩
theorem oi_X2_3 : Cond.methodLink RX2 3 objectInit ∈ lw_all := in_all 90 (by decide +kernel) rfl
theorem ac_X2_16 : AC RX2 16 := ⟨in_all 387 (by decide +kernel) rfl, in_all 35 (by decide +kernel) rfl, in_all 34 (by decide +kernel) rfl, in_all 5 (by decide +kernel) rfl⟩
theorem oi_X3_3 : Cond.methodLink RX3 3 objectInit ∈ lw_all := in_all 24 (by decide +kernel) rfl
theorem lk_X3_11 : LI RX3 11 yX5_init cX5_init 1 0 := ⟨⟨in_all 29 (by decide +kernel) rfl, in_all 4 (by decide +kernel) rfl, in_all 27 (by decide +kernel) rfl, by decide +kernel⟩, rfl, in_all 28 (by decide +kernel) rfl⟩
theorem lk_X3_20 : LI RX3 20 yX0_init cX0_init 1 0 := ⟨⟨in_all 60 (by decide +kernel) rfl, in_all 6 (by decide +kernel) rfl, in_all 58 (by decide +kernel) rfl, by decide +kernel⟩, rfl, in_all 59 (by decide +kernel) rfl⟩
theorem lk_X3_27 : LI RX3 27 yX2_init cX2_init 1 0 := ⟨⟨in_all 89 (by decide +kernel) rfl, in_all 7 (by decide +kernel) rfl, in_all 87 (by decide +kernel) rfl, by decide +kernel⟩, rfl, in_all 88 (by decide +kernel) rfl⟩
theorem lk_X3_36 : LV RX3 36 yX5_copyFrom cX5_copyFrom 2 none 1 5 := ⟨⟨in_all 377 (by decide +kernel) rfl, in_all 4 (by decide +kernel) rfl, in_all 374 (by decide +kernel) rfl, by decide +kernel⟩, in_all 375 (by decide +kernel) rfl, in_all 376 (by decide +kernel) rfl, TX5, 4, rfl⟩
theorem lk_X3_40 : LV RX3 40 yX0_copyFrom cX0_copyFrom 3 none 1 0 := ⟨⟨in_all 381 (by decide +kernel) rfl, in_all 6 (by decide +kernel) rfl, in_all 378 (by decide +kernel) rfl, by decide +kernel⟩, in_all 379 (by decide +kernel) rfl, in_all 380 (by decide +kernel) rfl, TX0, 5, rfl⟩
theorem lk_X3_43 : LV RX3 43 yX2_copyFrom cX2_copyFrom 3 none 1 2 := ⟨⟨in_all 386 (by decide +kernel) rfl, in_all 7 (by decide +kernel) rfl, in_all 383 (by decide +kernel) rfl, by decide +kernel⟩, in_all 384 (by decide +kernel) rfl, in_all 385 (by decide +kernel) rfl, TX2, 3, rfl⟩
theorem ac_X3_46 : AC RX3 46 := ⟨in_all 388 (by decide +kernel) rfl, in_all 35 (by decide +kernel) rfl, in_all 34 (by decide +kernel) rfl, in_all 5 (by decide +kernel) rfl⟩
theorem lk_X3_74 : LV RX3 74 yX5_tick cX5_tick 1 none 0 5 := ⟨⟨in_all 419 (by decide +kernel) rfl, in_all 4 (by decide +kernel) rfl, in_all 416 (by decide +kernel) rfl, by decide +kernel⟩, in_all 417 (by decide +kernel) rfl, in_all 418 (by decide +kernel) rfl, TX5, 4, rfl⟩
theorem lk_X3_77 : LV RX3 77 yX0_comeIfDue cX0_comeIfDue 3 none 1 0 := ⟨⟨in_all 429 (by decide +kernel) rfl, in_all 6 (by decide +kernel) rfl, in_all 426 (by decide +kernel) rfl, by decide +kernel⟩, in_all 427 (by decide +kernel) rfl, in_all 428 (by decide +kernel) rfl, TX0, 5, rfl⟩
theorem lk_X3_80 : LV RX3 80 yX3_passPhase cX3_passPhase 1 (some .boolean) 0 3 := ⟨⟨in_all 415 (by decide +kernel) rfl, in_all 3 (by decide +kernel) rfl, in_all 412 (by decide +kernel) rfl, by decide +kernel⟩, in_all 413 (by decide +kernel) rfl, in_all 414 (by decide +kernel) rfl, TX3, 11, rfl⟩
theorem lk_X3_87 : LV RX3 87 yX5_withCells cX5_withCells 3 (some .int) 2 5 := ⟨⟨in_all 281 (by decide +kernel) rfl, in_all 4 (by decide +kernel) rfl, in_all 393 (by decide +kernel) rfl, by decide +kernel⟩, in_all 279 (by decide +kernel) rfl, in_all 280 (by decide +kernel) rfl, TX5, 4, rfl⟩
theorem lk_X3_91 : LV RX3 91 yX3_passPhases cX3_passPhases 4 (some .int) 1 3 := ⟨⟨in_all 411 (by decide +kernel) rfl, in_all 3 (by decide +kernel) rfl, in_all 408 (by decide +kernel) rfl, by decide +kernel⟩, in_all 409 (by decide +kernel) rfl, in_all 410 (by decide +kernel) rfl, TX3, 11, rfl⟩
theorem lk_X3_95 : LV RX3 95 yX2_add cX2_add 2 none 1 2 := ⟨⟨in_all 478 (by decide +kernel) rfl, in_all 7 (by decide +kernel) rfl, in_all 475 (by decide +kernel) rfl, by decide +kernel⟩, in_all 476 (by decide +kernel) rfl, in_all 477 (by decide +kernel) rfl, TX2, 3, rfl⟩
theorem oi_X4_1 : Cond.methodLink RX4 1 objectInit ∈ lw_all := in_all 176 (by decide +kernel) rfl
theorem oi_X5_3 : Cond.methodLink RX5 3 objectInit ∈ lw_all := in_all 30 (by decide +kernel) rfl
theorem ac_X5_27 : AC RX5 27 := ⟨in_all 33 (by decide +kernel) rfl, in_all 35 (by decide +kernel) rfl, in_all 34 (by decide +kernel) rfl, in_all 5 (by decide +kernel) rfl⟩
theorem lk_X5_36 : LV RX5 36 yX5_isLeapYear cX5_isLeapYear 3 (some .boolean) 0 5 := ⟨⟨in_all 265 (by decide +kernel) rfl, in_all 4 (by decide +kernel) rfl, in_all 262 (by decide +kernel) rfl, by decide +kernel⟩, in_all 263 (by decide +kernel) rfl, in_all 264 (by decide +kernel) rfl, TX5, 4, rfl⟩
theorem lk_X5_40 : LV RX5 40 yX5_lastValue cX5_lastValue 2 (some .int) 1 5 := ⟨⟨in_all 259 (by decide +kernel) rfl, in_all 4 (by decide +kernel) rfl, in_all 273 (by decide +kernel) rfl, by decide +kernel⟩, in_all 257 (by decide +kernel) rfl, in_all 258 (by decide +kernel) rfl, TX5, 4, rfl⟩
theorem lk_X5_44 : LV RX5 44 yX5_whyWrong cX5_whyWrong 3 (some .int) 1 5 := ⟨⟨in_all 272 (by decide +kernel) rfl, in_all 4 (by decide +kernel) rfl, in_all 290 (by decide +kernel) rfl, by decide +kernel⟩, in_all 270 (by decide +kernel) rfl, in_all 271 (by decide +kernel) rfl, TX5, 4, rfl⟩
theorem lk_X5_51 : LV RX5 51 yX5_withCells cX5_withCells 3 (some .int) 2 5 := ⟨⟨in_all 281 (by decide +kernel) rfl, in_all 4 (by decide +kernel) rfl, in_all 425 (by decide +kernel) rfl, by decide +kernel⟩, in_all 279 (by decide +kernel) rfl, in_all 280 (by decide +kernel) rfl, TX5, 4, rfl⟩
theorem lk_X5_54 : LkS RX5 54 yJ6_bitCount_0f7a4 cJ6_bitCount_0f7a4 1 (some .int) 1 := ⟨⟨in_all 301 (by decide +kernel) rfl, in_all 10 (by decide +kernel) rfl, in_all 299 (by decide +kernel) rfl, by decide +kernel⟩, in_all 300 (by decide +kernel) rfl⟩
theorem lk_X5_59 : LV RX5 59 yX5_nextValue cX5_nextValue 4 (some .int) 2 5 := ⟨⟨in_all 277 (by decide +kernel) rfl, in_all 4 (by decide +kernel) rfl, in_all 424 (by decide +kernel) rfl, by decide +kernel⟩, in_all 275 (by decide +kernel) rfl, in_all 276 (by decide +kernel) rfl, TX5, 4, rfl⟩
theorem lk_X5_62 : LV RX5 62 yX5_stepOn cX5_stepOn 4 (some .boolean) 2 5 := ⟨⟨in_all 423 (by decide +kernel) rfl, in_all 4 (by decide +kernel) rfl, in_all 420 (by decide +kernel) rfl, by decide +kernel⟩, in_all 421 (by decide +kernel) rfl, in_all 422 (by decide +kernel) rfl, TX5, 4, rfl⟩
theorem lkN_X6_numberOf : LBN yX6_numberOf cX6_numberOf 1 (some .int) 1 := ⟨in_all 268 (by decide +kernel) rfl, in_all 2 (by decide +kernel) rfl, in_all 267 (by decide +kernel) rfl, by decide +kernel⟩
theorem lk_X5_72 : LV RX5 72 yX5_dayOfYear cX5_dayOfYear 3 (some .int) 0 5 := ⟨⟨in_all 322 (by decide +kernel) rfl, in_all 4 (by decide +kernel) rfl, in_all 319 (by decide +kernel) rfl, by decide +kernel⟩, in_all 320 (by decide +kernel) rfl, in_all 321 (by decide +kernel) rfl, TX5, 4, rfl⟩
theorem lk_X5_76 : LV RX5 76 yX5_daysFromStart cX5_daysFromStart 3 (some .int) 0 5 := ⟨⟨in_all 317 (by decide +kernel) rfl, in_all 4 (by decide +kernel) rfl, in_all 329 (by decide +kernel) rfl, by decide +kernel⟩, in_all 315 (by decide +kernel) rfl, in_all 316 (by decide +kernel) rfl, TX5, 4, rfl⟩
theorem oi_X6_1 : Cond.methodLink RX6 1 objectInit ∈ lw_all := in_all 16 (by decide +kernel) rfl
theorem lk_X6_9 : LI RX6 9 yX3_init cX3_init 1 0 := ⟨⟨in_all 23 (by decide +kernel) rfl, in_all 3 (by decide +kernel) rfl, in_all 21 (by decide +kernel) rfl, by decide +kernel⟩, rfl, in_all 22 (by decide +kernel) rfl⟩
theorem lk_X6_21 : LI RX6 21 yX1_init cX1_init 1 0 := ⟨⟨in_all 154 (by decide +kernel) rfl, in_all 8 (by decide +kernel) rfl, in_all 152 (by decide +kernel) rfl, by decide +kernel⟩, rfl, in_all 153 (by decide +kernel) rfl⟩
theorem lk_X6_28 : LI RX6 28 yX4_init cX4_init 1 0 := ⟨⟨in_all 175 (by decide +kernel) rfl, in_all 9 (by decide +kernel) rfl, in_all 173 (by decide +kernel) rfl, by decide +kernel⟩, rfl, in_all 174 (by decide +kernel) rfl⟩
theorem lk_X6_41 : LkS RX6 41 yX6_mayWrite cX6_mayWrite 2 (some .boolean) 2 := ⟨⟨in_all 365 (by decide +kernel) rfl, in_all 2 (by decide +kernel) rfl, in_all 363 (by decide +kernel) rfl, by decide +kernel⟩, in_all 364 (by decide +kernel) rfl⟩
theorem lk_X6_46 : LV RX6 46 yX6_keepState cX6_keepState 3 none 0 6 := ⟨⟨in_all 369 (by decide +kernel) rfl, in_all 2 (by decide +kernel) rfl, in_all 366 (by decide +kernel) rfl, by decide +kernel⟩, in_all 368 (by decide +kernel) rfl, in_all 0 (by decide +kernel) rfl, TX6, 8, rfl⟩
theorem lk_X6_49 : LV RX6 49 yX3_writeRegister cX3_writeRegister 3 (some .int) 2 3 := ⟨⟨in_all 392 (by decide +kernel) rfl, in_all 3 (by decide +kernel) rfl, in_all 389 (by decide +kernel) rfl, by decide +kernel⟩, in_all 390 (by decide +kernel) rfl, in_all 391 (by decide +kernel) rfl, TX3, 11, rfl⟩
theorem lk_X6_53 : LkS RX6 53 yX6_isRegister cX6_isRegister 1 (some .boolean) 1 := ⟨⟨in_all 251 (by decide +kernel) rfl, in_all 2 (by decide +kernel) rfl, in_all 249 (by decide +kernel) rfl, by decide +kernel⟩, in_all 250 (by decide +kernel) rfl⟩
theorem lk_X6_57 : LV RX6 57 yX3_readRegister cX3_readRegister 3 (some .int) 1 3 := ⟨⟨in_all 407 (by decide +kernel) rfl, in_all 3 (by decide +kernel) rfl, in_all 404 (by decide +kernel) rfl, by decide +kernel⟩, in_all 405 (by decide +kernel) rfl, in_all 406 (by decide +kernel) rfl, TX3, 11, rfl⟩
theorem lk_X6_61 : LkS RX6 61 yX6_isMode cX6_isMode 1 (some .boolean) 1 := ⟨⟨in_all 443 (by decide +kernel) rfl, in_all 2 (by decide +kernel) rfl, in_all 441 (by decide +kernel) rfl, by decide +kernel⟩, in_all 442 (by decide +kernel) rfl⟩
theorem lk_X6_64 : LV RX6 64 yX1_make cX1_make 5 none 2 1 := ⟨⟨in_all 447 (by decide +kernel) rfl, in_all 8 (by decide +kernel) rfl, in_all 444 (by decide +kernel) rfl, by decide +kernel⟩, in_all 445 (by decide +kernel) rfl, in_all 446 (by decide +kernel) rfl, TX1, 4, rfl⟩
theorem lk_X6_72 : LkS RX6 72 yX6_mayPass cX6_mayPass 1 (some .boolean) 1 := ⟨⟨in_all 494 (by decide +kernel) rfl, in_all 2 (by decide +kernel) rfl, in_all 492 (by decide +kernel) rfl, by decide +kernel⟩, in_all 493 (by decide +kernel) rfl⟩
theorem lk_X6_75 : LV RX6 75 yX3_passPhases cX3_passPhases 4 (some .int) 1 3 := ⟨⟨in_all 411 (by decide +kernel) rfl, in_all 3 (by decide +kernel) rfl, in_all 495 (by decide +kernel) rfl, by decide +kernel⟩, in_all 409 (by decide +kernel) rfl, in_all 410 (by decide +kernel) rfl, TX3, 11, rfl⟩
theorem lk_X6_78 : LkS RX6 78 yX6_mayChangeAlarm cX6_mayChangeAlarm 3 (some .boolean) 3 := ⟨⟨in_all 502 (by decide +kernel) rfl, in_all 2 (by decide +kernel) rfl, in_all 500 (by decide +kernel) rfl, by decide +kernel⟩, in_all 501 (by decide +kernel) rfl⟩
theorem lk_X6_86 : LV RX6 86 yX0_changeValue cX0_changeValue 5 (some .int) 3 0 := ⟨⟨in_all 506 (by decide +kernel) rfl, in_all 6 (by decide +kernel) rfl, in_all 503 (by decide +kernel) rfl, by decide +kernel⟩, in_all 504 (by decide +kernel) rfl, in_all 505 (by decide +kernel) rfl, TX0, 5, rfl⟩
theorem lk_X6_92 : LkS RX6 92 yX6_isAlarm cX6_isAlarm 1 (some .boolean) 1 := ⟨⟨in_all 344 (by decide +kernel) rfl, in_all 2 (by decide +kernel) rfl, in_all 342 (by decide +kernel) rfl, by decide +kernel⟩, in_all 343 (by decide +kernel) rfl⟩
theorem lk_X6_95 : LkS RX6 95 yX6_isWithin cX6_isWithin 3 (some .boolean) 3 := ⟨⟨in_all 254 (by decide +kernel) rfl, in_all 2 (by decide +kernel) rfl, in_all 252 (by decide +kernel) rfl, by decide +kernel⟩, in_all 253 (by decide +kernel) rfl⟩
theorem lk_X6_98 : LV RX6 98 yX0_changeMask cX0_changeMask 4 (some .int) 2 0 := ⟨⟨in_all 514 (by decide +kernel) rfl, in_all 6 (by decide +kernel) rfl, in_all 511 (by decide +kernel) rfl, by decide +kernel⟩, in_all 512 (by decide +kernel) rfl, in_all 513 (by decide +kernel) rfl, TX0, 5, rfl⟩
theorem lk_X6_105 : LkS RX6 105 yX6_isCell cX6_isCell 2 (some .boolean) 2 := ⟨⟨in_all 528 (by decide +kernel) rfl, in_all 2 (by decide +kernel) rfl, in_all 526 (by decide +kernel) rfl, by decide +kernel⟩, in_all 527 (by decide +kernel) rfl⟩
theorem lk_X6_112 : LV RX6 112 yX5_hasFailed cX5_hasFailed 3 (some .boolean) 2 5 := ⟨⟨in_all 532 (by decide +kernel) rfl, in_all 4 (by decide +kernel) rfl, in_all 529 (by decide +kernel) rfl, by decide +kernel⟩, in_all 530 (by decide +kernel) rfl, in_all 531 (by decide +kernel) rfl, TX5, 4, rfl⟩
theorem lk_X6_118 : LV RX6 118 yX5_failCell cX5_failCell 4 (some .int) 3 5 := ⟨⟨in_all 538 (by decide +kernel) rfl, in_all 4 (by decide +kernel) rfl, in_all 535 (by decide +kernel) rfl, by decide +kernel⟩, in_all 536 (by decide +kernel) rfl, in_all 537 (by decide +kernel) rfl, TX5, 4, rfl⟩
theorem lk_X6_121 : LV RX6 121 yX5_healCell cX5_healCell 3 none 2 5 := ⟨⟨in_all 547 (by decide +kernel) rfl, in_all 4 (by decide +kernel) rfl, in_all 544 (by decide +kernel) rfl, by decide +kernel⟩, in_all 545 (by decide +kernel) rfl, in_all 546 (by decide +kernel) rfl, TX5, 4, rfl⟩
theorem lk_X6_125 : LV RX6 125 yX5_failedCells cX5_failedCells 3 (some .int) 0 5 := ⟨⟨in_all 298 (by decide +kernel) rfl, in_all 4 (by decide +kernel) rfl, in_all 295 (by decide +kernel) rfl, by decide +kernel⟩, in_all 296 (by decide +kernel) rfl, in_all 297 (by decide +kernel) rfl, TX5, 4, rfl⟩
theorem lk_X6_135 : LV RX6 135 yX3_changeSetting cX3_changeSetting 4 (some .int) 2 3 := ⟨⟨in_all 559 (by decide +kernel) rfl, in_all 3 (by decide +kernel) rfl, in_all 556 (by decide +kernel) rfl, by decide +kernel⟩, in_all 557 (by decide +kernel) rfl, in_all 558 (by decide +kernel) rfl, TX3, 11, rfl⟩
theorem lk_X6_138 : LV RX6 138 yX5_lastValue cX5_lastValue 2 (some .int) 1 5 := ⟨⟨in_all 259 (by decide +kernel) rfl, in_all 4 (by decide +kernel) rfl, in_all 256 (by decide +kernel) rfl, by decide +kernel⟩, in_all 257 (by decide +kernel) rfl, in_all 258 (by decide +kernel) rfl, TX5, 4, rfl⟩
theorem lk_X6_144 : LkS RX6 144 yX6_numberOf cX6_numberOf 1 (some .int) 1 := ⟨⟨in_all 268 (by decide +kernel) rfl, in_all 2 (by decide +kernel) rfl, in_all 266 (by decide +kernel) rfl, by decide +kernel⟩, in_all 267 (by decide +kernel) rfl⟩
theorem lk_X6_147 : LV RX6 147 yX5_whyWrong cX5_whyWrong 3 (some .int) 1 5 := ⟨⟨in_all 272 (by decide +kernel) rfl, in_all 4 (by decide +kernel) rfl, in_all 269 (by decide +kernel) rfl, by decide +kernel⟩, in_all 270 (by decide +kernel) rfl, in_all 271 (by decide +kernel) rfl, TX5, 4, rfl⟩
theorem lk_X6_156 : LV RX6 156 yX5_nextValue cX5_nextValue 4 (some .int) 2 5 := ⟨⟨in_all 277 (by decide +kernel) rfl, in_all 4 (by decide +kernel) rfl, in_all 274 (by decide +kernel) rfl, by decide +kernel⟩, in_all 275 (by decide +kernel) rfl, in_all 276 (by decide +kernel) rfl, TX5, 4, rfl⟩
theorem lk_X6_159 : LV RX6 159 yX5_withCells cX5_withCells 3 (some .int) 2 5 := ⟨⟨in_all 281 (by decide +kernel) rfl, in_all 4 (by decide +kernel) rfl, in_all 278 (by decide +kernel) rfl, by decide +kernel⟩, in_all 279 (by decide +kernel) rfl, in_all 280 (by decide +kernel) rfl, TX5, 4, rfl⟩
theorem lk_X6_171 : LkS RX6 171 yX6_bitOf cX6_bitOf 2 (some .int) 2 := ⟨⟨in_all 347 (by decide +kernel) rfl, in_all 2 (by decide +kernel) rfl, in_all 345 (by decide +kernel) rfl, by decide +kernel⟩, in_all 346 (by decide +kernel) rfl⟩
theorem lk_X6_177 : LV RX6 177 yX0_matches cX0_matches 5 (some .boolean) 2 0 := ⟨⟨in_all 351 (by decide +kernel) rfl, in_all 6 (by decide +kernel) rfl, in_all 348 (by decide +kernel) rfl, by decide +kernel⟩, in_all 349 (by decide +kernel) rfl, in_all 350 (by decide +kernel) rfl, TX0, 5, rfl⟩
theorem lk_X6_181 : LV RX6 181 yX5_isDateRight cX5_isDateRight 1 (some .boolean) 0 5 := ⟨⟨in_all 312 (by decide +kernel) rfl, in_all 4 (by decide +kernel) rfl, in_all 309 (by decide +kernel) rfl, by decide +kernel⟩, in_all 310 (by decide +kernel) rfl, in_all 311 (by decide +kernel) rfl, TX5, 4, rfl⟩
theorem lk_X6_186 : LV RX6 186 yX5_daysFromStart cX5_daysFromStart 3 (some .int) 0 5 := ⟨⟨in_all 317 (by decide +kernel) rfl, in_all 4 (by decide +kernel) rfl, in_all 314 (by decide +kernel) rfl, by decide +kernel⟩, in_all 315 (by decide +kernel) rfl, in_all 316 (by decide +kernel) rfl, TX5, 4, rfl⟩
theorem lk_X6_189 : LV RX6 189 yX5_weekdayByDate cX5_weekdayByDate 1 (some .int) 0 5 := ⟨⟨in_all 328 (by decide +kernel) rfl, in_all 4 (by decide +kernel) rfl, in_all 325 (by decide +kernel) rfl, by decide +kernel⟩, in_all 326 (by decide +kernel) rfl, in_all 327 (by decide +kernel) rfl, TX5, 4, rfl⟩
theorem lk_X6_192 : LV RX6 192 yX5_daysOfYear cX5_daysOfYear 1 (some .int) 0 5 := ⟨⟨in_all 333 (by decide +kernel) rfl, in_all 4 (by decide +kernel) rfl, in_all 330 (by decide +kernel) rfl, by decide +kernel⟩, in_all 331 (by decide +kernel) rfl, in_all 332 (by decide +kernel) rfl, TX5, 4, rfl⟩
theorem lk_X6_195 : LV RX6 195 yX5_dayOfYear cX5_dayOfYear 3 (some .int) 0 5 := ⟨⟨in_all 322 (by decide +kernel) rfl, in_all 4 (by decide +kernel) rfl, in_all 334 (by decide +kernel) rfl, by decide +kernel⟩, in_all 320 (by decide +kernel) rfl, in_all 321 (by decide +kernel) rfl, TX5, 4, rfl⟩
theorem lk_X6_207 : LV RX6 207 yX2_told cX2_told 4 (some .int) 2 2 := ⟨⟨in_all 486 (by decide +kernel) rfl, in_all 7 (by decide +kernel) rfl, in_all 483 (by decide +kernel) rfl, by decide +kernel⟩, in_all 484 (by decide +kernel) rfl, in_all 485 (by decide +kernel) rfl, TX2, 3, rfl⟩
theorem lk_X6_216 : LV RX6 216 yX3_copyFrom cX3_copyFrom 2 none 1 3 := ⟨⟨in_all 373 (by decide +kernel) rfl, in_all 3 (by decide +kernel) rfl, in_all 370 (by decide +kernel) rfl, by decide +kernel⟩, in_all 371 (by decide +kernel) rfl, in_all 372 (by decide +kernel) rfl, TX3, 11, rfl⟩
theorem lk_X6_239 : LV RX6 239 yX5_wrongOnes cX5_wrongOnes 3 (some .int) 0 5 := ⟨⟨in_all 289 (by decide +kernel) rfl, in_all 4 (by decide +kernel) rfl, in_all 286 (by decide +kernel) rfl, by decide +kernel⟩, in_all 287 (by decide +kernel) rfl, in_all 288 (by decide +kernel) rfl, TX5, 4, rfl⟩
theorem lk_X6_242 : LV RX6 242 yX0_cameInAll cX0_cameInAll 3 (some .int) 0 0 := ⟨⟨in_all 294 (by decide +kernel) rfl, in_all 6 (by decide +kernel) rfl, in_all 291 (by decide +kernel) rfl, by decide +kernel⟩, in_all 292 (by decide +kernel) rfl, in_all 293 (by decide +kernel) rfl, TX0, 5, rfl⟩
theorem oi_i : Cond.instanceMethod objectInit ∈ lw_all := in_all 17 (by decide +kernel) rfl
theorem oi_c : Cond.code objectInit ⟨#[0xb1]⟩ 1 none ∈ lw_all := in_all 18 (by decide +kernel) rfl
theorem sw_X6_129 : Cond.fieldLink RX6 129 RX6 "LEAST_SETTING" "[I" ∈ lw_all := in_all 552 (by decide +kernel) rfl
theorem sw_X6_132 : Cond.fieldLink RX6 132 RX6 "MOST_SETTING" "[I" ∈ lw_all := in_all 554 (by decide +kernel) rfl
