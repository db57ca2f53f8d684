theorem fl_RX2_9 : FL RX2 9 2 0 := ⟨RX2, TX2, 3, rfl, by decide, qF_RX2_9, uw_X2⟩
theorem fp_RX2_9 : FP RX2 9 2 0 (.int) := ⟨RX2, TX2, 3, tyX2, rfl, by decide, qF_RX2_9, uw_X2, tyX2_ok, nmX2, rfl, by decide +kernel⟩
theorem fl_RX7_212 : FL RX7 212 2 0 := ⟨RX2, TX2, 3, rfl, by decide, qF_RX7_212, uw_X2⟩
theorem fp_RX7_212 : FP RX7 212 2 0 (.int) := ⟨RX2, TX2, 3, tyX2, rfl, by decide, qF_RX7_212, uw_X2, tyX2_ok, nmX2, rfl, by decide +kernel⟩
theorem fl_RX2_17 : FL RX2 17 2 1 := ⟨RX2, TX2, 3, rfl, by decide, qF_RX2_17, uw_X2⟩
theorem fl_RX7_198 : FL RX7 198 2 1 := ⟨RX2, TX2, 3, rfl, by decide, qF_RX7_198, uw_X2⟩
theorem fl_RX2_20 : FL RX2 20 2 2 := ⟨RX2, TX2, 3, rfl, by decide, qF_RX2_20, uw_X2⟩
theorem fl_RX7_205 : FL RX7 205 2 2 := ⟨RX2, TX2, 3, rfl, by decide, qF_RX7_205, uw_X2⟩
theorem fl_RX5_9 : FL RX5 9 5 0 := ⟨RX5, TX5, 6, rfl, by decide, qF_RX5_9, uw_X5⟩
theorem fp_RX5_9 : FP RX5 9 5 0 (.int) := ⟨RX5, TX5, 6, tyX5, rfl, by decide, qF_RX5_9, uw_X5, tyX5_ok, nmX5, rfl, by decide +kernel⟩
theorem fl_RX7_78 : FL RX7 78 5 0 := ⟨RX5, TX5, 6, rfl, by decide, qF_RX7_78, uw_X5⟩
theorem fp_RX7_78 : FP RX7 78 5 0 (.int) := ⟨RX5, TX5, 6, tyX5, rfl, by decide, qF_RX7_78, uw_X5, tyX5_ok, nmX5, rfl, by decide +kernel⟩
theorem fl_RX5_17 : FL RX5 17 5 1 := ⟨RX5, TX5, 6, rfl, by decide, qF_RX5_17, uw_X5⟩
theorem fl_RX7_91 : FL RX7 91 5 1 := ⟨RX5, TX5, 6, rfl, by decide, qF_RX7_91, uw_X5⟩
theorem fl_RX5_23 : FL RX5 23 5 2 := ⟨RX5, TX5, 6, rfl, by decide, qF_RX5_23, uw_X5⟩
theorem fl_RX7_178 : FL RX7 178 5 2 := ⟨RX5, TX5, 6, rfl, by decide, qF_RX7_178, uw_X5⟩
theorem fl_RX5_27 : FL RX5 27 5 3 := ⟨RX5, TX5, 6, rfl, by decide, qF_RX5_27, uw_X5⟩
theorem fp_RX5_27 : FP RX5 27 5 3 (.int) := ⟨RX5, TX5, 6, tyX5, rfl, by decide, qF_RX5_27, uw_X5, tyX5_ok, nmX5, rfl, by decide +kernel⟩
theorem fl_RX7_189 : FL RX7 189 5 3 := ⟨RX5, TX5, 6, rfl, by decide, qF_RX7_189, uw_X5⟩
theorem fp_RX7_189 : FP RX7 189 5 3 (.int) := ⟨RX5, TX5, 6, tyX5, rfl, by decide, qF_RX7_189, uw_X5, tyX5_ok, nmX5, rfl, by decide +kernel⟩
theorem fl_RX5_30 : FL RX5 30 5 4 := ⟨RX5, TX5, 6, rfl, by decide, qF_RX5_30, uw_X5⟩
theorem fl_RX5_34 : FL RX5 34 5 5 := ⟨RX5, TX5, 6, rfl, by decide, qF_RX5_34, uw_X5⟩
theorem fp_RX5_34 : FP RX5 34 5 5 (.int) := ⟨RX5, TX5, 6, tyX5, rfl, by decide, qF_RX5_34, uw_X5, tyX5_ok, nmX5, rfl, by decide +kernel⟩
theorem fl_RX7_192 : FL RX7 192 5 5 := ⟨RX5, TX5, 6, rfl, by decide, qF_RX7_192, uw_X5⟩
theorem fp_RX7_192 : FP RX7 192 5 5 (.int) := ⟨RX5, TX5, 6, tyX5, rfl, by decide, qF_RX7_192, uw_X5, tyX5_ok, nmX5, rfl, by decide +kernel⟩
theorem fl_RX6_9 : FL RX6 9 6 0 := ⟨RX6, TX6, 2, rfl, by decide, qF_RX6_9, uw_X6⟩
theorem fl_RX6_15 : FL RX6 15 6 1 := ⟨RX6, TX6, 2, rfl, by decide, qF_RX6_15, uw_X6⟩
theorem fp_RX6_15 : FP RX6 15 6 1 (.int) := ⟨RX6, TX6, 2, tyX6, rfl, by decide, qF_RX6_15, uw_X6, tyX6_ok, nmX6, rfl, by decide +kernel⟩
theorem fl_RX3_9 : FL RX3 9 3 0 := ⟨RX3, TX3, 2, rfl, by decide, qF_RX3_9, uw_X3⟩
theorem fl_RX3_15 : FL RX3 15 3 1 := ⟨RX3, TX3, 2, rfl, by decide, qF_RX3_15, uw_X3⟩
theorem fp_RX3_15 : FP RX3 15 3 1 (.int) := ⟨RX3, TX3, 2, tyX3, rfl, by decide, qF_RX3_15, uw_X3, tyX3_ok, nmX3, rfl, by decide +kernel⟩
theorem fl_RX7_227 : FL RX7 227 3 1 := ⟨RX3, TX3, 2, rfl, by decide, qF_RX7_227, uw_X3⟩
theorem fp_RX7_227 : FP RX7 227 3 1 (.int) := ⟨RX3, TX3, 2, tyX3, rfl, by decide, qF_RX7_227, uw_X3, tyX3_ok, nmX3, rfl, by decide +kernel⟩
theorem fl_RX0_9 : FL RX0 9 0 0 := ⟨RX0, TX0, 3, rfl, by decide, qF_RX0_9, uw_X0⟩
theorem fl_RX0_15 : FL RX0 15 0 1 := ⟨RX0, TX0, 3, rfl, by decide, qF_RX0_15, uw_X0⟩
theorem fp_RX0_15 : FP RX0 15 0 1 (.int) := ⟨RX0, TX0, 3, tyX0, rfl, by decide, qF_RX0_15, uw_X0, tyX0_ok, nmX0, rfl, by decide +kernel⟩
theorem fl_RX7_234 : FL RX7 234 0 1 := ⟨RX0, TX0, 3, rfl, by decide, qF_RX7_234, uw_X0⟩
theorem fp_RX7_234 : FP RX7 234 0 1 (.int) := ⟨RX0, TX0, 3, tyX0, rfl, by decide, qF_RX7_234, uw_X0, tyX0_ok, nmX0, rfl, by decide +kernel⟩
theorem fl_RX0_19 : FL RX0 19 0 2 := ⟨RX0, TX0, 3, rfl, by decide, qF_RX0_19, uw_X0⟩
theorem fp_RX0_19 : FP RX0 19 0 2 (.int) := ⟨RX0, TX0, 3, tyX0, rfl, by decide, qF_RX0_19, uw_X0, tyX0_ok, nmX0, rfl, by decide +kernel⟩
theorem fl_RX7_252 : FL RX7 252 0 2 := ⟨RX0, TX0, 3, rfl, by decide, qF_RX7_252, uw_X0⟩
theorem fp_RX7_252 : FP RX7 252 0 2 (.int) := ⟨RX0, TX0, 3, tyX0, rfl, by decide, qF_RX7_252, uw_X0, tyX0_ok, nmX0, rfl, by decide +kernel⟩
theorem fl_RX1_9 : FL RX1 9 1 0 := ⟨RX1, TX1, 2, rfl, by decide, qF_RX1_9, uw_X1⟩
theorem fl_RX7_259 : FL RX7 259 1 0 := ⟨RX1, TX1, 2, rfl, by decide, qF_RX7_259, uw_X1⟩
theorem fl_RX1_15 : FL RX1 15 1 1 := ⟨RX1, TX1, 2, rfl, by decide, qF_RX1_15, uw_X1⟩
theorem fp_RX1_15 : FP RX1 15 1 1 (.int) := ⟨RX1, TX1, 2, tyX1, rfl, by decide, qF_RX1_15, uw_X1, tyX1_ok, nmX1, rfl, by decide +kernel⟩
theorem fl_RX7_258 : FL RX7 258 1 1 := ⟨RX1, TX1, 2, rfl, by decide, qF_RX7_258, uw_X1⟩
theorem fp_RX7_258 : FP RX7 258 1 1 (.int) := ⟨RX1, TX1, 2, tyX1, rfl, by decide, qF_RX7_258, uw_X1, tyX1_ok, nmX1, rfl, by decide +kernel⟩
theorem fl_RX4_9 : FL RX4 9 4 0 := ⟨RX4, TX4, 4, rfl, by decide, qF_RX4_9, uw_X4⟩
theorem fl_RX7_275 : FL RX7 275 4 0 := ⟨RX4, TX4, 4, rfl, by decide, qF_RX7_275, uw_X4⟩
theorem fl_RX4_15 : FL RX4 15 4 1 := ⟨RX4, TX4, 4, rfl, by decide, qF_RX4_15, uw_X4⟩
theorem fp_RX4_15 : FP RX4 15 4 1 (.boolean) := ⟨RX4, TX4, 4, tyX4, rfl, by decide, qF_RX4_15, uw_X4, tyX4_ok, nmX4, rfl, by decide +kernel⟩
theorem fl_RX7_269 : FL RX7 269 4 1 := ⟨RX4, TX4, 4, rfl, by decide, qF_RX7_269, uw_X4⟩
theorem fp_RX7_269 : FP RX7 269 4 1 (.boolean) := ⟨RX4, TX4, 4, tyX4, rfl, by decide, qF_RX7_269, uw_X4, tyX4_ok, nmX4, rfl, by decide +kernel⟩
theorem fl_RX4_19 : FL RX4 19 4 2 := ⟨RX4, TX4, 4, rfl, by decide, qF_RX4_19, uw_X4⟩
theorem fp_RX4_19 : FP RX4 19 4 2 (.int) := ⟨RX4, TX4, 4, tyX4, rfl, by decide, qF_RX4_19, uw_X4, tyX4_ok, nmX4, rfl, by decide +kernel⟩
theorem fl_RX7_282 : FL RX7 282 4 2 := ⟨RX4, TX4, 4, rfl, by decide, qF_RX7_282, uw_X4⟩
theorem fp_RX7_282 : FP RX7 282 4 2 (.int) := ⟨RX4, TX4, 4, tyX4, rfl, by decide, qF_RX7_282, uw_X4, tyX4_ok, nmX4, rfl, by decide +kernel⟩
theorem fl_RX4_23 : FL RX4 23 4 3 := ⟨RX4, TX4, 4, rfl, by decide, qF_RX4_23, uw_X4⟩
theorem fp_RX4_23 : FP RX4 23 4 3 (.int) := ⟨RX4, TX4, 4, tyX4, rfl, by decide, qF_RX4_23, uw_X4, tyX4_ok, nmX4, rfl, by decide +kernel⟩
theorem fl_RX7_294 : FL RX7 294 4 3 := ⟨RX4, TX4, 4, rfl, by decide, qF_RX7_294, uw_X4⟩
theorem fp_RX7_294 : FP RX7 294 4 3 (.int) := ⟨RX4, TX4, 4, tyX4, rfl, by decide, qF_RX7_294, uw_X4, tyX4_ok, nmX4, rfl, by decide +kernel⟩
theorem fl_RX7_14 : FL RX7 14 7 0 := ⟨RX7, TX7, 11, rfl, by decide, qF_RX7_14, uw_X7⟩
theorem fl_RX7_18 : FL RX7 18 7 1 := ⟨RX7, TX7, 11, rfl, by decide, qF_RX7_18, uw_X7⟩
theorem fl_RX7_21 : FL RX7 21 7 2 := ⟨RX7, TX7, 11, rfl, by decide, qF_RX7_21, uw_X7⟩
theorem fp_RX7_21 : FP RX7 21 7 2 (.boolean) := ⟨RX7, TX7, 11, tyX7, rfl, by decide, qF_RX7_21, uw_X7, tyX7_ok, nmX7, rfl, by decide +kernel⟩
theorem fl_RX7_28 : FL RX7 28 7 3 := ⟨RX7, TX7, 11, rfl, by decide, qF_RX7_28, uw_X7⟩
theorem fl_RX7_35 : FL RX7 35 7 4 := ⟨RX7, TX7, 11, rfl, by decide, qF_RX7_35, uw_X7⟩
theorem fl_RX7_39 : FL RX7 39 7 5 := ⟨RX7, TX7, 11, rfl, by decide, qF_RX7_39, uw_X7⟩
theorem fl_RX7_42 : FL RX7 42 7 6 := ⟨RX7, TX7, 11, rfl, by decide, qF_RX7_42, uw_X7⟩
theorem fl_RX7_49 : FL RX7 49 7 7 := ⟨RX7, TX7, 11, rfl, by decide, qF_RX7_49, uw_X7⟩
theorem fl_RX7_56 : FL RX7 56 7 8 := ⟨RX7, TX7, 11, rfl, by decide, qF_RX7_56, uw_X7⟩
theorem fl_RX7_63 : FL RX7 63 7 9 := ⟨RX7, TX7, 11, rfl, by decide, qF_RX7_63, uw_X7⟩
theorem fl_RX7_69 : FL RX7 69 7 10 := ⟨RX7, TX7, 11, rfl, by decide, qF_RX7_69, uw_X7⟩
theorem fl_RX8_17 : FL RX8 17 8 0 := ⟨RX8, TX8, 32, rfl, by decide, qF_RX8_17, uw_X8⟩
theorem fp_RX8_17 : FP RX8 17 8 0 (.int) := ⟨RX8, TX8, 32, tyX8, rfl, by decide, qF_RX8_17, uw_X8, tyX8_ok, nmX8, rfl, by decide +kernel⟩
theorem fl_RX8_109 : FL RX8 109 8 1 := ⟨RX8, TX8, 32, rfl, by decide, qF_RX8_109, uw_X8⟩
theorem fp_RX8_109 : FP RX8 109 8 1 (.int) := ⟨RX8, TX8, 32, tyX8, rfl, by decide, qF_RX8_109, uw_X8, tyX8_ok, nmX8, rfl, by decide +kernel⟩
theorem fl_RX8_190 : FL RX8 190 8 2 := ⟨RX8, TX8, 32, rfl, by decide, qF_RX8_190, uw_X8⟩
theorem fp_RX8_190 : FP RX8 190 8 2 (.int) := ⟨RX8, TX8, 32, tyX8, rfl, by decide, qF_RX8_190, uw_X8, tyX8_ok, nmX8, rfl, by decide +kernel⟩
theorem fl_RX8_193 : FL RX8 193 8 3 := ⟨RX8, TX8, 32, rfl, by decide, qF_RX8_193, uw_X8⟩
theorem fp_RX8_193 : FP RX8 193 8 3 (.int) := ⟨RX8, TX8, 32, tyX8, rfl, by decide, qF_RX8_193, uw_X8, tyX8_ok, nmX8, rfl, by decide +kernel⟩
theorem fl_RX8_21 : FL RX8 21 8 4 := ⟨RX8, TX8, 32, rfl, by decide, qF_RX8_21, uw_X8⟩
theorem fl_RX8_25 : FL RX8 25 8 5 := ⟨RX8, TX8, 32, rfl, by decide, qF_RX8_25, uw_X8⟩
theorem fl_RX8_28 : FL RX8 28 8 6 := ⟨RX8, TX8, 32, rfl, by decide, qF_RX8_28, uw_X8⟩
theorem fl_RX8_31 : FL RX8 31 8 7 := ⟨RX8, TX8, 32, rfl, by decide, qF_RX8_31, uw_X8⟩
theorem fl_RX8_34 : FL RX8 34 8 8 := ⟨RX8, TX8, 32, rfl, by decide, qF_RX8_34, uw_X8⟩
theorem fl_RX8_37 : FL RX8 37 8 9 := ⟨RX8, TX8, 32, rfl, by decide, qF_RX8_37, uw_X8⟩
theorem fl_RX8_40 : FL RX8 40 8 10 := ⟨RX8, TX8, 32, rfl, by decide, qF_RX8_40, uw_X8⟩
theorem fl_RX8_43 : FL RX8 43 8 11 := ⟨RX8, TX8, 32, rfl, by decide, qF_RX8_43, uw_X8⟩
theorem fl_RX8_46 : FL RX8 46 8 12 := ⟨RX8, TX8, 32, rfl, by decide, qF_RX8_46, uw_X8⟩
theorem fl_RX8_49 : FL RX8 49 8 13 := ⟨RX8, TX8, 32, rfl, by decide, qF_RX8_49, uw_X8⟩
theorem fl_RX8_52 : FL RX8 52 8 14 := ⟨RX8, TX8, 32, rfl, by decide, qF_RX8_52, uw_X8⟩
theorem fl_RX8_56 : FL RX8 56 8 15 := ⟨RX8, TX8, 32, rfl, by decide, qF_RX8_56, uw_X8⟩
theorem fl_RX8_226 : FL RX8 226 8 16 := ⟨RX8, TX8, 32, rfl, by decide, qF_RX8_226, uw_X8⟩
theorem fp_RX8_226 : FP RX8 226 8 16 (.int) := ⟨RX8, TX8, 32, tyX8, rfl, by decide, qF_RX8_226, uw_X8, tyX8_ok, nmX8, rfl, by decide +kernel⟩
theorem fl_RX8_59 : FL RX8 59 8 17 := ⟨RX8, TX8, 32, rfl, by decide, qF_RX8_59, uw_X8⟩
theorem fl_RX8_62 : FL RX8 62 8 18 := ⟨RX8, TX8, 32, rfl, by decide, qF_RX8_62, uw_X8⟩
theorem fl_RX8_65 : FL RX8 65 8 19 := ⟨RX8, TX8, 32, rfl, by decide, qF_RX8_65, uw_X8⟩
theorem fl_RX8_68 : FL RX8 68 8 20 := ⟨RX8, TX8, 32, rfl, by decide, qF_RX8_68, uw_X8⟩
theorem fl_RX8_242 : FL RX8 242 8 21 := ⟨RX8, TX8, 32, rfl, by decide, qF_RX8_242, uw_X8⟩
theorem fp_RX8_242 : FP RX8 242 8 21 (.int) := ⟨RX8, TX8, 32, tyX8, rfl, by decide, qF_RX8_242, uw_X8, tyX8_ok, nmX8, rfl, by decide +kernel⟩
theorem fl_RX8_252 : FL RX8 252 8 22 := ⟨RX8, TX8, 32, rfl, by decide, qF_RX8_252, uw_X8⟩
theorem fp_RX8_252 : FP RX8 252 8 22 (.int) := ⟨RX8, TX8, 32, tyX8, rfl, by decide, qF_RX8_252, uw_X8, tyX8_ok, nmX8, rfl, by decide +kernel⟩
theorem fl_RX8_274 : FL RX8 274 8 23 := ⟨RX8, TX8, 32, rfl, by decide, qF_RX8_274, uw_X8⟩
theorem fp_RX8_274 : FP RX8 274 8 23 (.int) := ⟨RX8, TX8, 32, tyX8, rfl, by decide, qF_RX8_274, uw_X8, tyX8_ok, nmX8, rfl, by decide +kernel⟩
theorem fl_RX8_71 : FL RX8 71 8 24 := ⟨RX8, TX8, 32, rfl, by decide, qF_RX8_71, uw_X8⟩
theorem fl_RX8_74 : FL RX8 74 8 25 := ⟨RX8, TX8, 32, rfl, by decide, qF_RX8_74, uw_X8⟩
theorem fl_RX8_77 : FL RX8 77 8 26 := ⟨RX8, TX8, 32, rfl, by decide, qF_RX8_77, uw_X8⟩
theorem fl_RX8_80 : FL RX8 80 8 27 := ⟨RX8, TX8, 32, rfl, by decide, qF_RX8_80, uw_X8⟩
theorem fl_RX8_83 : FL RX8 83 8 28 := ⟨RX8, TX8, 32, rfl, by decide, qF_RX8_83, uw_X8⟩
theorem fl_RX8_298 : FL RX8 298 8 29 := ⟨RX8, TX8, 32, rfl, by decide, qF_RX8_298, uw_X8⟩
theorem fp_RX8_298 : FP RX8 298 8 29 (.int) := ⟨RX8, TX8, 32, tyX8, rfl, by decide, qF_RX8_298, uw_X8, tyX8_ok, nmX8, rfl, by decide +kernel⟩
theorem fl_RX8_311 : FL RX8 311 8 30 := ⟨RX8, TX8, 32, rfl, by decide, qF_RX8_311, uw_X8⟩
theorem fp_RX8_311 : FP RX8 311 8 30 (.boolean) := ⟨RX8, TX8, 32, tyX8, rfl, by decide, qF_RX8_311, uw_X8, tyX8_ok, nmX8, rfl, by decide +kernel⟩
theorem fl_RX8_294 : FL RX8 294 8 31 := ⟨RX8, TX8, 32, rfl, by decide, qF_RX8_294, uw_X8⟩
theorem fp_RX8_294 : FP RX8 294 8 31 (.boolean) := ⟨RX8, TX8, 32, tyX8, rfl, by decide, qF_RX8_294, uw_X8, tyX8_ok, nmX8, rfl, by decide +kernel⟩
theorem cv_RX7_74 : CV RX7 74 yX7_startAgain cX7_startAgain 3 ((Option.none : Option FieldType)) 7 1 := CV.mk' rfl qM_RX7_74 qI_X7_startAgain qS_X7_startAgain qN_RX7 qC_X7_startAgain (by decide +kernel) (by decide +kernel)
theorem cs_RX7_304 : CS RX7 304 yJ7_fill_53178 cJ7_fill_53178 4 ((Option.none : Option FieldType)) 2 := CS.mk' qM_RX7_304 qT_J7_fill_53178 qN_RJ7 qC_J7_fill_53178 (by decide +kernel) (by decide +kernel)
theorem cv_RX7_171 : CV RX7 171 yX7_setUnitPair cX7_setUnitPair 2 ((Option.none : Option FieldType)) 7 1 := CV.mk' rfl qM_RX7_171 qI_X7_setUnitPair qS_X7_setUnitPair qN_RX7 qC_X7_setUnitPair (by decide +kernel) (by decide +kernel)
theorem cv_RX7_306 : CV RX7 306 yX2_setUnit cX2_setUnit 6 ((Option.none : Option FieldType)) 2 4 := CV.mk' rfl qM_RX7_306 qI_X2_setUnit qS_X2_setUnit qN_RX2 qC_X2_setUnit (by decide +kernel) (by decide +kernel)
theorem cs_RX2_27 : CS RX2 27 yJ7_fill_53178 cJ7_fill_53178 4 ((Option.none : Option FieldType)) 2 := CS.mk' qM_RX2_27 qT_J7_fill_53178 qN_RJ7 qC_J7_fill_53178 (by decide +kernel) (by decide +kernel)
theorem cv_RX2_33 : CV RX2 33 yX2_deriveAlpha cX2_deriveAlpha 6 ((Option.some FieldType.boolean)) 2 3 := CV.mk' rfl qM_RX2_33 qI_X2_deriveAlpha qS_X2_deriveAlpha qN_RX2 qC_X2_deriveAlpha (by decide +kernel) (by decide +kernel)
theorem cv_RX2_37 : CV RX2 37 yX6_setZero cX6_setZero 2 ((Option.none : Option FieldType)) 6 1 := CV.mk' rfl qM_RX2_37 qI_X6_setZero qS_X6_setZero qN_RX6 qC_X6_setZero (by decide +kernel) (by decide +kernel)
theorem cs_RX6_19 : CS RX6 19 yJ7_fill_d0a16 cJ7_fill_d0a16 5 ((Option.none : Option FieldType)) 2 := CS.mk' qM_RX6_19 qT_J7_fill_d0a16 qN_RJ7 qC_J7_fill_d0a16 (by decide +kernel) (by decide +kernel)
theorem cv_RX2_59 : CV RX2 59 yX6_plusRow cX6_plusRow 4 ((Option.none : Option FieldType)) 6 2 := CV.mk' rfl qM_RX2_59 qI_X6_plusRow qS_X6_plusRow qN_RX6 qC_X6_plusRow (by decide +kernel) (by decide +kernel)
theorem cv_RX2_43 : CV RX2 43 yX2_setRelationTerm cX2_setRelationTerm 5 ((Option.none : Option FieldType)) 2 4 := CV.mk' rfl qM_RX2_43 qI_X2_setRelationTerm qS_X2_setRelationTerm qN_RX2 qC_X2_setRelationTerm (by decide +kernel) (by decide +kernel)
theorem cv_RX2_66 : CV RX2 66 yX6_overFactors cX6_overFactors 4 ((Option.none : Option FieldType)) 6 2 := CV.mk' rfl qM_RX2_66 qI_X6_overFactors qS_X6_overFactors qN_RX6 qC_X6_overFactors (by decide +kernel) (by decide +kernel)
theorem cv_RX6_36 : CV RX6 36 yX6_overFactor cX6_overFactor 3 ((Option.none : Option FieldType)) 6 1 := CV.mk' rfl qM_RX6_36 qI_X6_overFactor qS_X6_overFactor qN_RX6 qC_X6_overFactor (by decide +kernel) (by decide +kernel)
theorem cv_RX2_47 : CV RX2 47 yX6_plusWide cX6_plusWide 4 ((Option.none : Option FieldType)) 6 2 := CV.mk' rfl qM_RX2_47 qI_X6_plusWide qS_X6_plusWide qN_RX6 qC_X6_plusWide (by decide +kernel) (by decide +kernel)
theorem cv_RX2_62 : CV RX2 62 yX6_timesFactors cX6_timesFactors 4 ((Option.none : Option FieldType)) 6 2 := CV.mk' rfl qM_RX2_62 qI_X6_timesFactors qS_X6_timesFactors qN_RX6 qC_X6_timesFactors (by decide +kernel) (by decide +kernel)
theorem cv_RX6_33 : CV RX6 33 yX6_timesFactor cX6_timesFactor 3 ((Option.none : Option FieldType)) 6 1 := CV.mk' rfl qM_RX6_33 qI_X6_timesFactor qS_X6_timesFactor qN_RX6 qC_X6_timesFactor (by decide +kernel) (by decide +kernel)
theorem cv_RX2_51 : CV RX2 51 yX6_fits cX6_fits 2 ((Option.some FieldType.boolean)) 6 0 := CV.mk' rfl qM_RX2_51 qI_X6_fits qS_X6_fits qN_RX6 qC_X6_fits (by decide +kernel) (by decide +kernel)
theorem cs_RX6_29 : CS RX6 29 yX6_isInRange cX6_isInRange 2 ((Option.some FieldType.boolean)) 1 := CS.mk' qM_RX6_29 qT_X6_isInRange qN_RX6 qC_X6_isInRange (by decide +kernel) (by decide +kernel)
theorem cv_RX2_55 : CV RX2 55 yX6_writeTo cX6_writeTo 3 ((Option.none : Option FieldType)) 6 1 := CV.mk' rfl qM_RX2_55 qI_X6_writeTo qS_X6_writeTo qN_RX6 qC_X6_writeTo (by decide +kernel) (by decide +kernel)
theorem cv_RX7_310 : CV RX7 310 yX5_setPair cX5_setPair 2 ((Option.none : Option FieldType)) 5 1 := CV.mk' rfl qM_RX7_310 qI_X5_setPair qS_X5_setPair qN_RX5 qC_X5_setPair (by decide +kernel) (by decide +kernel)
theorem cv_RX5_41 : CV RX5 41 yX2_copyFrom cX2_copyFrom 3 ((Option.none : Option FieldType)) 2 1 := CV.mk' rfl qM_RX5_41 qI_X2_copyFrom qS_X2_copyFrom qN_RX2 qC_X2_copyFrom (by decide +kernel) (by decide +kernel)
theorem cv_RL_13 : CV RL 13 yX7_reset cX7_reset 3 ((Option.some FieldType.int)) 7 1 := CV.mk' rfl qM_RL_13 qI_X7_reset qS_X7_reset qN_RX7 qC_X7_reset (by decide +kernel) (by decide +kernel)
theorem cv_RL_18 : CV RL 18 yX7_precision cX7_precision 1 ((Option.some FieldType.int)) 7 0 := CV.mk' rfl qM_RL_18 qI_X7_precision qS_X7_precision qN_RX7 qC_X7_precision (by decide +kernel) (by decide +kernel)
theorem cv_RL_23 : CV RL 23 yX7_setCoefficient cX7_setCoefficient 5 ((Option.some FieldType.int)) 7 3 := CV.mk' rfl qM_RL_23 qI_X7_setCoefficient qS_X7_setCoefficient qN_RX7 qC_X7_setCoefficient (by decide +kernel) (by decide +kernel)
theorem cs_RX7_82 : CS RX7 82 yX7_isRegister cX7_isRegister 1 ((Option.some FieldType.boolean)) 1 := CS.mk' qM_RX7_82 qT_X7_isRegister qN_RX7 qC_X7_isRegister (by decide +kernel) (by decide +kernel)
theorem cv_RX7_86 : CV RX7 86 yX7_isPower cX7_isPower 2 ((Option.some FieldType.boolean)) 7 1 := CV.mk' rfl qM_RX7_86 qI_X7_isPower qS_X7_isPower qN_RX7 qC_X7_isPower (by decide +kernel) (by decide +kernel)
theorem cv_RL_28 : CV RL 28 yX7_coefficient cX7_coefficient 3 ((Option.some FieldType.long)) 7 2 := CV.mk' rfl qM_RL_28 qI_X7_coefficient qS_X7_coefficient qN_RX7 qC_X7_coefficient (by decide +kernel) (by decide +kernel)
theorem cv_RL_33 : CV RL 33 yX7_order cX7_order 2 ((Option.some FieldType.int)) 7 1 := CV.mk' rfl qM_RL_33 qI_X7_order qS_X7_order qN_RX7 qC_X7_order (by decide +kernel) (by decide +kernel)
theorem cv_RX7_97 : CV RX7 97 yX7_lowestPower cX7_lowestPower 3 ((Option.some FieldType.int)) 7 1 := CV.mk' rfl qM_RX7_97 qI_X7_lowestPower qS_X7_lowestPower qN_RX7 qC_X7_lowestPower (by decide +kernel) (by decide +kernel)
theorem cv_RL_37 : CV RL 37 yX7_degree cX7_degree 2 ((Option.some FieldType.int)) 7 1 := CV.mk' rfl qM_RL_37 qI_X7_degree qS_X7_degree qN_RX7 qC_X7_degree (by decide +kernel) (by decide +kernel)
theorem cv_RX7_101 : CV RX7 101 yX7_highestPower cX7_highestPower 3 ((Option.some FieldType.int)) 7 1 := CV.mk' rfl qM_RX7_101 qI_X7_highestPower qS_X7_highestPower qN_RX7 qC_X7_highestPower (by decide +kernel) (by decide +kernel)
theorem cv_RL_41 : CV RL 41 yX7_add cX7_add 5 ((Option.some FieldType.int)) 7 4 := CV.mk' rfl qM_RL_41 qI_X7_add qS_X7_add qN_RX7 qC_X7_add (by decide +kernel) (by decide +kernel)
theorem cv_RX7_104 : CV RX7 104 yX6_setZero cX6_setZero 2 ((Option.none : Option FieldType)) 6 1 := CV.mk' rfl qM_RX7_104 qI_X6_setZero qS_X6_setZero qN_RX6 qC_X6_setZero (by decide +kernel) (by decide +kernel)
theorem cv_RX7_107 : CV RX7 107 yX6_plusRow cX6_plusRow 4 ((Option.none : Option FieldType)) 6 2 := CV.mk' rfl qM_RX7_107 qI_X6_plusRow qS_X6_plusRow qN_RX6 qC_X6_plusRow (by decide +kernel) (by decide +kernel)
theorem cv_RX7_111 : CV RX7 111 yX7_keepResult cX7_keepResult 2 ((Option.some FieldType.int)) 7 1 := CV.mk' rfl qM_RX7_111 qI_X7_keepResult qS_X7_keepResult qN_RX7 qC_X7_keepResult (by decide +kernel) (by decide +kernel)
theorem cv_RX7_329 : CV RX7 329 yX6_fits cX6_fits 2 ((Option.some FieldType.boolean)) 6 0 := CV.mk' rfl qM_RX7_329 qI_X6_fits qS_X6_fits qN_RX6 qC_X6_fits (by decide +kernel) (by decide +kernel)
theorem cv_RX7_333 : CV RX7 333 yX6_writeTo cX6_writeTo 3 ((Option.none : Option FieldType)) 6 1 := CV.mk' rfl qM_RX7_333 qI_X6_writeTo qS_X6_writeTo qN_RX6 qC_X6_writeTo (by decide +kernel) (by decide +kernel)
theorem cv_RX7_153 : CV RX7 153 yX7_countNonzero cX7_countNonzero 4 ((Option.some FieldType.int)) 7 1 := CV.mk' rfl qM_RX7_153 qI_X7_countNonzero qS_X7_countNonzero qN_RX7 qC_X7_countNonzero (by decide +kernel) (by decide +kernel)
theorem cv_RL_46 : CV RL 46 yX7_multiply cX7_multiply 4 ((Option.some FieldType.int)) 7 3 := CV.mk' rfl qM_RL_46 qI_X7_multiply qS_X7_multiply qN_RX7 qC_X7_multiply (by decide +kernel) (by decide +kernel)
theorem cv_RX7_115 : CV RX7 115 yX6_setProduct cX6_setProduct 6 ((Option.none : Option FieldType)) 6 3 := CV.mk' rfl qM_RX7_115 qI_X6_setProduct qS_X6_setProduct qN_RX6 qC_X6_setProduct (by decide +kernel) (by decide +kernel)
theorem cv_RX6_25 : CV RX6 25 yX6_setZero cX6_setZero 2 ((Option.none : Option FieldType)) 6 1 := CV.mk' rfl qM_RX6_25 qI_X6_setZero qS_X6_setZero qN_RX6 qC_X6_setZero (by decide +kernel) (by decide +kernel)
theorem cv_RL_50 : CV RL 50 yX7_divide cX7_divide 5 ((Option.some FieldType.int)) 7 3 := CV.mk' rfl qM_RL_50 qI_X7_divide qS_X7_divide qN_RX7 qC_X7_divide (by decide +kernel) (by decide +kernel)
theorem cv_RX7_119 : CV RX7 119 yX6_setQuotient cX6_setQuotient 8 ((Option.some FieldType.boolean)) 6 3 := CV.mk' rfl qM_RX7_119 qI_X6_setQuotient qS_X6_setQuotient qN_RX6 qC_X6_setQuotient (by decide +kernel) (by decide +kernel)
theorem cv_RL_54 : CV RL 54 yX7_shift cX7_shift 4 ((Option.some FieldType.int)) 7 3 := CV.mk' rfl qM_RL_54 qI_X7_shift qS_X7_shift qN_RX7 qC_X7_shift (by decide +kernel) (by decide +kernel)
theorem cv_RX7_123 : CV RX7 123 yX6_plusShifted cX6_plusShifted 4 ((Option.none : Option FieldType)) 6 2 := CV.mk' rfl qM_RX7_123 qI_X6_plusShifted qS_X6_plusShifted qN_RX6 qC_X6_plusShifted (by decide +kernel) (by decide +kernel)
theorem cv_RL_58 : CV RL 58 yX7_substitute cX7_substitute 6 ((Option.some FieldType.int)) 7 3 := CV.mk' rfl qM_RL_58 qI_X7_substitute qS_X7_substitute qN_RX7 qC_X7_substitute (by decide +kernel) (by decide +kernel)
theorem cv_RX7_126 : CV RX7 126 yX6_plusTerm cX6_plusTerm 3 ((Option.none : Option FieldType)) 6 2 := CV.mk' rfl qM_RX7_126 qI_X6_plusTerm qS_X6_plusTerm qN_RX6 qC_X6_plusTerm (by decide +kernel) (by decide +kernel)
theorem cv_RL_62 : CV RL 62 yX7_product cX7_product 6 ((Option.some FieldType.int)) 7 4 := CV.mk' rfl qM_RL_62 qI_X7_product qS_X7_product qN_RX7 qC_X7_product (by decide +kernel) (by decide +kernel)
theorem cs_RX7_130 : CS RX7 130 yX7_isResidueSet cX7_isResidueSet 2 ((Option.some FieldType.boolean)) 2 := CS.mk' qM_RX7_130 qT_X7_isResidueSet qN_RX7 qC_X7_isResidueSet (by decide +kernel) (by decide +kernel)
theorem cs_RX7_134 : CS RX7 134 yX7_isInResidueSet cX7_isInResidueSet 3 ((Option.some FieldType.boolean)) 3 := CS.mk' qM_RX7_134 qT_X7_isInResidueSet qN_RX7 qC_X7_isInResidueSet (by decide +kernel) (by decide +kernel)
theorem cv_RX7_138 : CV RX7 138 yX6_timesFactorToThe cX6_timesFactorToThe 4 ((Option.none : Option FieldType)) 6 2 := CV.mk' rfl qM_RX7_138 qI_X6_timesFactorToThe qS_X6_timesFactorToThe qN_RX6 qC_X6_timesFactorToThe (by decide +kernel) (by decide +kernel)
theorem cv_RL_66 : CV RL 66 yX7_firstDifference cX7_firstDifference 3 ((Option.some FieldType.int)) 7 2 := CV.mk' rfl qM_RL_66 qI_X7_firstDifference qS_X7_firstDifference qN_RX7 qC_X7_firstDifference (by decide +kernel) (by decide +kernel)
theorem cv_RX7_141 : CV RX7 141 yX7_lowestDifference cX7_lowestDifference 4 ((Option.some FieldType.int)) 7 2 := CV.mk' rfl qM_RX7_141 qI_X7_lowestDifference qS_X7_lowestDifference qN_RX7 qC_X7_lowestDifference (by decide +kernel) (by decide +kernel)
theorem cv_RL_71 : CV RL 71 yX7_valueAt cX7_valueAt 9 ((Option.some FieldType.int)) 7 2 := CV.mk' rfl qM_RL_71 qI_X7_valueAt qS_X7_valueAt qN_RX7 qC_X7_valueAt (by decide +kernel) (by decide +kernel)
theorem cs_RX7_147 : CS RX7 147 yJ9_floorMod_f86c9 cJ9_floorMod_f86c9 6 ((Option.some FieldType.long)) 2 := CS.mk' qM_RX7_147 qT_J9_floorMod_f86c9 qN_RJ9 qC_J9_floorMod_f86c9 (by decide +kernel) (by decide +kernel)
theorem cv_RL_75 : CV RL 75 yX7_statistic cX7_statistic 4 ((Option.some FieldType.int)) 7 2 := CV.mk' rfl qM_RL_75 qI_X7_statistic qS_X7_statistic qN_RX7 qC_X7_statistic (by decide +kernel) (by decide +kernel)
theorem cv_RX7_156 : CV RX7 156 yX7_countNegative cX7_countNegative 4 ((Option.some FieldType.int)) 7 1 := CV.mk' rfl qM_RX7_156 qI_X7_countNegative qS_X7_countNegative qN_RX7 qC_X7_countNegative (by decide +kernel) (by decide +kernel)
theorem cv_RX7_159 : CV RX7 159 yX7_countSignChanges cX7_countSignChanges 6 ((Option.some FieldType.int)) 7 1 := CV.mk' rfl qM_RX7_159 qI_X7_countSignChanges qS_X7_countSignChanges qN_RX7 qC_X7_countSignChanges (by decide +kernel) (by decide +kernel)
theorem cs_RX7_340 : CS RX7 340 yJ6_compare_7cf53 cJ6_compare_7cf53 2 ((Option.some FieldType.int)) 2 := CS.mk' qM_RX7_340 qT_J6_compare_7cf53 qN_RJ6 qC_J6_compare_7cf53 (by decide +kernel) (by decide +kernel)
theorem cv_RX7_162 : CV RX7 162 yX7_largestAbsolute cX7_largestAbsolute 4 ((Option.some FieldType.int)) 7 1 := CV.mk' rfl qM_RX7_162 qI_X7_largestAbsolute qS_X7_largestAbsolute qN_RX7 qC_X7_largestAbsolute (by decide +kernel) (by decide +kernel)
theorem cs_RX7_345 : CS RX7 345 yJ9_abs_0f7a4 cJ9_abs_0f7a4 1 ((Option.some FieldType.int)) 1 := CS.mk' qM_RX7_345 qT_J9_abs_0f7a4 qN_RJ9 qC_J9_abs_0f7a4 (by decide +kernel) (by decide +kernel)
theorem cs_RX7_348 : CS RX7 348 yJ9_max_7cf53 cJ9_max_7cf53 2 ((Option.some FieldType.int)) 2 := CS.mk' qM_RX7_348 qT_J9_max_7cf53 qN_RJ9 qC_J9_max_7cf53 (by decide +kernel) (by decide +kernel)
theorem cv_RX7_165 : CV RX7 165 yX7_countRecords cX7_countRecords 5 ((Option.some FieldType.int)) 7 1 := CV.mk' rfl qM_RX7_165 qI_X7_countRecords qS_X7_countRecords qN_RX7 qC_X7_countRecords (by decide +kernel) (by decide +kernel)
theorem cv_RL_79 : CV RL 79 yX7_registerByRank cX7_registerByRank 3 ((Option.some FieldType.int)) 7 1 := CV.mk' rfl qM_RL_79 qI_X7_registerByRank qS_X7_registerByRank qN_RX7 qC_X7_registerByRank (by decide +kernel) (by decide +kernel)
theorem cv_RX7_168 : CV RX7 168 yX7_rankOf cX7_rankOf 4 ((Option.some FieldType.int)) 7 1 := CV.mk' rfl qM_RX7_168 qI_X7_rankOf qS_X7_rankOf qN_RX7 qC_X7_rankOf (by decide +kernel) (by decide +kernel)
theorem cv_RX7_351 : CV RX7 351 yX7_comesBefore cX7_comesBefore 7 ((Option.some FieldType.boolean)) 7 2 := CV.mk' rfl qM_RX7_351 qI_X7_comesBefore qS_X7_comesBefore qN_RX7 qC_X7_comesBefore (by decide +kernel) (by decide +kernel)
theorem cv_RL_83 : CV RL 83 yX7_unitPair cX7_unitPair 2 ((Option.some FieldType.int)) 7 1 := CV.mk' rfl qM_RL_83 qI_X7_unitPair qS_X7_unitPair qN_RX7 qC_X7_unitPair (by decide +kernel) (by decide +kernel)
theorem cv_RL_87 : CV RL 87 yX7_setAlpha cX7_setAlpha 3 ((Option.some FieldType.int)) 7 2 := CV.mk' rfl qM_RL_87 qI_X7_setAlpha qS_X7_setAlpha qN_RX7 qC_X7_setAlpha (by decide +kernel) (by decide +kernel)
theorem cv_RX7_174 : CV RX7 174 yX7_setInPair cX7_setInPair 8 ((Option.some FieldType.int)) 7 3 := CV.mk' rfl qM_RX7_174 qI_X7_setInPair qS_X7_setInPair qN_RX7 qC_X7_setInPair (by decide +kernel) (by decide +kernel)
theorem cs_RX7_313 : CS RX7 313 yX7_isPairIndex cX7_isPairIndex 1 ((Option.some FieldType.boolean)) 1 := CS.mk' qM_RX7_313 qT_X7_isPairIndex qN_RX7 qC_X7_isPairIndex (by decide +kernel) (by decide +kernel)
theorem cv_RX7_316 : CV RX7 316 yX2_copyFrom cX2_copyFrom 3 ((Option.none : Option FieldType)) 2 1 := CV.mk' rfl qM_RX7_316 qI_X2_copyFrom qS_X2_copyFrom qN_RX2 qC_X2_copyFrom (by decide +kernel) (by decide +kernel)
theorem cs_RX7_318 : CS RX7 318 yX7_copyRow cX7_copyRow 2 ((Option.none : Option FieldType)) 2 := CS.mk' qM_RX7_318 qT_X7_copyRow qN_RX7 qC_X7_copyRow (by decide +kernel) (by decide +kernel)
theorem cv_RX7_322 : CV RX7 322 yX2_deriveBeta cX2_deriveBeta 6 ((Option.some FieldType.boolean)) 2 3 := CV.mk' rfl qM_RX7_322 qI_X2_deriveBeta qS_X2_deriveBeta qN_RX2 qC_X2_deriveBeta (by decide +kernel) (by decide +kernel)
theorem cv_RX7_326 : CV RX7 326 yX2_deriveAlpha cX2_deriveAlpha 6 ((Option.some FieldType.boolean)) 2 3 := CV.mk' rfl qM_RX7_326 qI_X2_deriveAlpha qS_X2_deriveAlpha qN_RX2 qC_X2_deriveAlpha (by decide +kernel) (by decide +kernel)
theorem cv_RL_91 : CV RL 91 yX7_setBeta cX7_setBeta 3 ((Option.some FieldType.int)) 7 2 := CV.mk' rfl qM_RL_91 qI_X7_setBeta qS_X7_setBeta qN_RX7 qC_X7_setBeta (by decide +kernel) (by decide +kernel)
theorem cv_RL_95 : CV RL 95 yX7_step cX7_step 1 ((Option.some FieldType.int)) 7 0 := CV.mk' rfl qM_RL_95 qI_X7_step qS_X7_step qN_RX7 qC_X7_step (by decide +kernel) (by decide +kernel)
theorem cv_RX7_181 : CV RX7 181 yX2_setNextOf cX2_setNextOf 7 ((Option.some FieldType.boolean)) 2 4 := CV.mk' rfl qM_RX7_181 qI_X2_setNextOf qS_X2_setNextOf qN_RX2 qC_X2_setNextOf (by decide +kernel) (by decide +kernel)
theorem cv_RX2_73 : CV RX2 73 yX6_plusShifted cX6_plusShifted 4 ((Option.none : Option FieldType)) 6 2 := CV.mk' rfl qM_RX2_73 qI_X6_plusShifted qS_X6_plusShifted qN_RX6 qC_X6_plusShifted (by decide +kernel) (by decide +kernel)
theorem cv_RX7_185 : CV RX7 185 yX5_goOnTo cX5_goOnTo 2 ((Option.none : Option FieldType)) 5 1 := CV.mk' rfl qM_RX7_185 qI_X5_goOnTo qS_X5_goOnTo qN_RX5 qC_X5_goOnTo (by decide +kernel) (by decide +kernel)
theorem cv_RX5_45 : CV RX5 45 yX5_forgetOldest cX5_forgetOldest 3 ((Option.none : Option FieldType)) 5 0 := CV.mk' rfl qM_RX5_45 qI_X5_forgetOldest qS_X5_forgetOldest qN_RX5 qC_X5_forgetOldest (by decide +kernel) (by decide +kernel)
theorem cv_RL_99 : CV RL 99 yX7_undoStep cX7_undoStep 1 ((Option.some FieldType.int)) 7 0 := CV.mk' rfl qM_RL_99 qI_X7_undoStep qS_X7_undoStep qN_RX7 qC_X7_undoStep (by decide +kernel) (by decide +kernel)
theorem cv_RX7_195 : CV RX7 195 yX5_goBack cX5_goBack 1 ((Option.none : Option FieldType)) 5 0 := CV.mk' rfl qM_RX7_195 qI_X5_goBack qS_X5_goBack qN_RX5 qC_X5_goBack (by decide +kernel) (by decide +kernel)
theorem cv_RL_103 : CV RL 103 yX7_chainLength cX7_chainLength 1 ((Option.some FieldType.int)) 7 0 := CV.mk' rfl qM_RL_103 qI_X7_chainLength qS_X7_chainLength qN_RX7 qC_X7_chainLength (by decide +kernel) (by decide +kernel)
theorem cv_RL_107 : CV RL 107 yX7_copyAlpha cX7_copyAlpha 3 ((Option.some FieldType.int)) 7 2 := CV.mk' rfl qM_RL_107 qI_X7_copyAlpha qS_X7_copyAlpha qN_RX7 qC_X7_copyAlpha (by decide +kernel) (by decide +kernel)
theorem cv_RX7_201 : CV RX7 201 yX7_copyToRegister cX7_copyToRegister 4 ((Option.some FieldType.int)) 7 3 := CV.mk' rfl qM_RX7_201 qI_X7_copyToRegister qS_X7_copyToRegister qN_RX7 qC_X7_copyToRegister (by decide +kernel) (by decide +kernel)
theorem cv_RL_111 : CV RL 111 yX7_copyBeta cX7_copyBeta 3 ((Option.some FieldType.int)) 7 2 := CV.mk' rfl qM_RL_111 qI_X7_copyBeta qS_X7_copyBeta qN_RX7 qC_X7_copyBeta (by decide +kernel) (by decide +kernel)
theorem cv_RL_115 : CV RL 115 yX7_sumSide cX7_sumSide 2 ((Option.some FieldType.int)) 7 1 := CV.mk' rfl qM_RL_115 qI_X7_sumSide qS_X7_sumSide qN_RX7 qC_X7_sumSide (by decide +kernel) (by decide +kernel)
theorem cv_RX7_208 : CV RX7 208 yX7_sumWithStepPowers cX7_sumWithStepPowers 3 ((Option.none : Option FieldType)) 7 1 := CV.mk' rfl qM_RX7_208 qI_X7_sumWithStepPowers qS_X7_sumWithStepPowers qN_RX7 qC_X7_sumWithStepPowers (by decide +kernel) (by decide +kernel)
theorem cs_RX7_337 : CS RX7 337 yX7_stepPower cX7_stepPower 2 ((Option.some FieldType.int)) 2 := CS.mk' qM_RX7_337 qT_X7_stepPower qN_RX7 qC_X7_stepPower (by decide +kernel) (by decide +kernel)
theorem cv_RL_119 : CV RL 119 yX7_productSide cX7_productSide 2 ((Option.some FieldType.int)) 7 1 := CV.mk' rfl qM_RL_119 qI_X7_productSide qS_X7_productSide qN_RX7 qC_X7_productSide (by decide +kernel) (by decide +kernel)
theorem cv_RX7_215 : CV RX7 215 yX6_overFactors cX6_overFactors 4 ((Option.none : Option FieldType)) 6 2 := CV.mk' rfl qM_RX7_215 qI_X6_overFactors qS_X6_overFactors qN_RX6 qC_X6_overFactors (by decide +kernel) (by decide +kernel)
theorem cv_RL_123 : CV RL 123 yX7_countPartitions cX7_countPartitions 6 ((Option.some FieldType.long)) 7 3 := CV.mk' rfl qM_RL_123 qI_X7_countPartitions qS_X7_countPartitions qN_RX7 qC_X7_countPartitions (by decide +kernel) (by decide +kernel)
theorem cs_RX7_218 : CS RX7 218 yJ7_fill_d0a16 cJ7_fill_d0a16 5 ((Option.none : Option FieldType)) 2 := CS.mk' qM_RX7_218 qT_J7_fill_d0a16 qN_RJ7 qC_J7_fill_d0a16 (by decide +kernel) (by decide +kernel)
theorem cv_RL_128 : CV RL 128 yX7_listPartitions cX7_listPartitions 2 ((Option.some FieldType.int)) 7 1 := CV.mk' rfl qM_RL_128 qI_X7_listPartitions qS_X7_listPartitions qN_RX7 qC_X7_listPartitions (by decide +kernel) (by decide +kernel)
theorem cv_RX7_224 : CV RX7 224 yX3_fillWith cX3_fillWith 2 ((Option.none : Option FieldType)) 3 1 := CV.mk' rfl qM_RX7_224 qI_X3_fillWith qS_X3_fillWith qN_RX3 qC_X3_fillWith (by decide +kernel) (by decide +kernel)
theorem cv_RX3_19 : CV RX3 19 yX3_fillFrom cX3_fillFrom 8 ((Option.none : Option FieldType)) 3 4 := CV.mk' rfl qM_RX3_19 qI_X3_fillFrom qS_X3_fillFrom qN_RX3 qC_X3_fillFrom (by decide +kernel) (by decide +kernel)
theorem cs_RX3_27 : CS RX3 27 yJ9_min_7cf53 cJ9_min_7cf53 2 ((Option.some FieldType.int)) 2 := CS.mk' qM_RX3_27 qT_J9_min_7cf53 qN_RJ9 qC_J9_min_7cf53 (by decide +kernel) (by decide +kernel)
theorem cv_RX3_33 : CV RX3 33 yX3_put cX3_put 4 ((Option.none : Option FieldType)) 3 3 := CV.mk' rfl qM_RX3_33 qI_X3_put qS_X3_put qN_RX3 qC_X3_put (by decide +kernel) (by decide +kernel)
theorem cv_RX3_23 : CV RX3 23 yX3_makeNext cX3_makeNext 5 ((Option.some FieldType.boolean)) 3 1 := CV.mk' rfl qM_RX3_23 qI_X3_makeNext qS_X3_makeNext qN_RX3 qC_X3_makeNext (by decide +kernel) (by decide +kernel)
theorem cv_RX3_37 : CV RX3 37 yX3_lastPlaceAboveOne cX3_lastPlaceAboveOne 3 ((Option.some FieldType.int)) 3 1 := CV.mk' rfl qM_RX3_37 qI_X3_lastPlaceAboveOne qS_X3_lastPlaceAboveOne qN_RX3 qC_X3_lastPlaceAboveOne (by decide +kernel) (by decide +kernel)
theorem cv_RX3_41 : CV RX3 41 yX3_at cX3_at 3 ((Option.some FieldType.int)) 3 2 := CV.mk' rfl qM_RX3_41 qI_X3_at qS_X3_at qN_RX3 qC_X3_at (by decide +kernel) (by decide +kernel)
theorem cv_RL_132 : CV RL 132 yX7_filterPartitions cX7_filterPartitions 2 ((Option.some FieldType.int)) 7 0 := CV.mk' rfl qM_RL_132 qI_X7_filterPartitions qS_X7_filterPartitions qN_RX7 qC_X7_filterPartitions (by decide +kernel) (by decide +kernel)
theorem cv_RX7_230 : CV RX7 230 yX7_filterInInput cX7_filterInInput 1 ((Option.some FieldType.int)) 7 0 := CV.mk' rfl qM_RX7_230 qI_X7_filterInInput qS_X7_filterInInput qN_RX7 qC_X7_filterInInput (by decide +kernel) (by decide +kernel)
theorem cv_RX7_356 : CV RX7 356 yX0_holds cX0_holds 3 ((Option.some FieldType.boolean)) 0 1 := CV.mk' rfl qM_RX7_356 qI_X0_holds qS_X0_holds qN_RX0 qC_X0_holds (by decide +kernel) (by decide +kernel)
theorem cs_RJ0_495 : CS RJ0 495 yJ1_charAt_3b067 cJ1_charAt_3b067 2 ((Option.some FieldType.char)) 2 := CS.mk' qM_RJ0_495 qT_J1_charAt_3b067 qN_RJ1 qC_J1_charAt_3b067 (by decide +kernel) (by decide +kernel)
theorem cs_RJ1_9 : CS RJ1 9 yJ0_checkIndex_df160 cJ0_checkIndex_df160 2 ((Option.none : Option FieldType)) 2 := CS.mk' qM_RJ1_9 qT_J0_checkIndex_df160 qN_RJ0 qC_J0_checkIndex_df160 (by decide +kernel) (by decide +kernel)
theorem cs_RJ0_1059 : CS RJ0 1059 yJ3_checkIndex_8e157 cJ3_checkIndex_8e157 3 ((Option.some FieldType.int)) 3 := CS.mk' qM_RJ0_1059 qT_J3_checkIndex_8e157 qN_RJ3 qC_J3_checkIndex_8e157 (by decide +kernel) (by decide +kernel)
theorem cs_RJ0_498 : CS RJ0 498 yJ2_charAt_3b067 cJ2_charAt_3b067 2 ((Option.some FieldType.char)) 2 := CS.mk' qM_RJ0_498 qT_J2_charAt_3b067 qN_RJ2 qC_J2_charAt_3b067 (by decide +kernel) (by decide +kernel)
theorem cs_RJ2_67 : CS RJ2 67 yJ2_checkIndex_2214a cJ2_checkIndex_2214a 2 ((Option.none : Option FieldType)) 2 := CS.mk' qM_RJ2_67 qT_J2_checkIndex_2214a qN_RJ2 qC_J2_checkIndex_2214a (by decide +kernel) (by decide +kernel)
theorem cs_RJ2_48 : CS RJ2 48 yJ2_length_9d52b cJ2_length_9d52b 1 ((Option.some FieldType.int)) 1 := CS.mk' qM_RJ2_48 qT_J2_length_9d52b qN_RJ2 qC_J2_length_9d52b (by decide +kernel) (by decide +kernel)
theorem cs_RJ2_414 : CS RJ2 414 yJ0_checkIndex_df160 cJ0_checkIndex_df160 2 ((Option.none : Option FieldType)) 2 := CS.mk' qM_RJ2_414 qT_J0_checkIndex_df160 qN_RJ0 qC_J0_checkIndex_df160 (by decide +kernel) (by decide +kernel)
theorem cs_RJ2_71 : CS RJ2 71 yJ2_getChar_3b067 cJ2_getChar_3b067 2 ((Option.some FieldType.char)) 2 := CS.mk' qM_RJ2_71 qT_J2_getChar_3b067 qN_RJ2 qC_J2_getChar_3b067 (by decide +kernel) (by decide +kernel)
theorem cv_RX7_235 : CV RX7 235 yX3_keepOnly cX3_keepOnly 4 ((Option.none : Option FieldType)) 3 1 := CV.mk' rfl qM_RX7_235 qI_X3_keepOnly qS_X3_keepOnly qN_RX3 qC_X3_keepOnly (by decide +kernel) (by decide +kernel)
theorem cv_RX3_44 : CV RX3 44 yX3_passes cX3_passes 3 ((Option.some FieldType.boolean)) 3 2 := CV.mk' rfl qM_RX3_44 qI_X3_passes qS_X3_passes qN_RX3 qC_X3_passes (by decide +kernel) (by decide +kernel)
theorem cv_RX3_54 : CV RX3 54 yX3_hasGaps cX3_hasGaps 5 ((Option.some FieldType.boolean)) 3 2 := CV.mk' rfl qM_RX3_54 qI_X3_hasGaps qS_X3_hasGaps qN_RX3 qC_X3_hasGaps (by decide +kernel) (by decide +kernel)
theorem cv_RX3_57 : CV RX3 57 yX3_hasOddPartsOnly cX3_hasOddPartsOnly 4 ((Option.some FieldType.boolean)) 3 1 := CV.mk' rfl qM_RX3_57 qI_X3_hasOddPartsOnly qS_X3_hasOddPartsOnly qN_RX3 qC_X3_hasOddPartsOnly (by decide +kernel) (by decide +kernel)
theorem cv_RX3_60 : CV RX3 60 yX3_countAtLeast cX3_countAtLeast 5 ((Option.some FieldType.int)) 3 2 := CV.mk' rfl qM_RX3_60 qI_X3_countAtLeast qS_X3_countAtLeast qN_RX3 qC_X3_countAtLeast (by decide +kernel) (by decide +kernel)
theorem cv_RX3_63 : CV RX3 63 yX3_isSelfConjugate cX3_isSelfConjugate 3 ((Option.some FieldType.boolean)) 3 1 := CV.mk' rfl qM_RX3_63 qI_X3_isSelfConjugate qS_X3_isSelfConjugate qN_RX3 qC_X3_isSelfConjugate (by decide +kernel) (by decide +kernel)
theorem cv_RL_136 : CV RL 136 yX7_part cX7_part 4 ((Option.some FieldType.int)) 7 2 := CV.mk' rfl qM_RL_136 qI_X7_part qS_X7_part qN_RX7 qC_X7_part (by decide +kernel) (by decide +kernel)
theorem cv_RX7_238 : CV RX7 238 yX3_at cX3_at 3 ((Option.some FieldType.int)) 3 2 := CV.mk' rfl qM_RX7_238 qI_X3_at qS_X3_at qN_RX3 qC_X3_at (by decide +kernel) (by decide +kernel)
theorem cv_RL_140 : CV RL 140 yX7_append cX7_append 4 ((Option.some FieldType.int)) 7 2 := CV.mk' rfl qM_RL_140 qI_X7_append qS_X7_append qN_RX7 qC_X7_append (by decide +kernel) (by decide +kernel)
theorem cs_RX7_242 : CS RX7 242 yX7_byteOf cX7_byteOf 2 ((Option.some FieldType.int)) 2 := CS.mk' qM_RX7_242 qT_X7_byteOf qN_RX7 qC_X7_byteOf (by decide +kernel) (by decide +kernel)
theorem cv_RX7_245 : CV RX7 245 yX0_put cX0_put 2 ((Option.none : Option FieldType)) 0 1 := CV.mk' rfl qM_RX7_245 qI_X0_put qS_X0_put qN_RX0 qC_X0_put (by decide +kernel) (by decide +kernel)
theorem cv_RL_144 : CV RL 144 yX7_clearInput cX7_clearInput 2 ((Option.some FieldType.int)) 7 0 := CV.mk' rfl qM_RL_144 qI_X7_clearInput qS_X7_clearInput qN_RX7 qC_X7_clearInput (by decide +kernel) (by decide +kernel)
theorem cv_RL_148 : CV RL 148 yX7_parseSeries cX7_parseSeries 3 ((Option.some FieldType.int)) 7 1 := CV.mk' rfl qM_RL_148 qI_X7_parseSeries qS_X7_parseSeries qN_RX7 qC_X7_parseSeries (by decide +kernel) (by decide +kernel)
theorem cv_RX7_248 : CV RX7 248 yX0_readSeries cX0_readSeries 4 ((Option.some FieldType.boolean)) 0 1 := CV.mk' rfl qM_RX7_248 qI_X0_readSeries qS_X0_readSeries qN_RX0 qC_X0_readSeries (by decide +kernel) (by decide +kernel)
theorem cv_RX0_31 : CV RX0 31 yX0_takes cX0_takes 2 ((Option.some FieldType.boolean)) 0 1 := CV.mk' rfl qM_RX0_31 qI_X0_takes qS_X0_takes qN_RX0 qC_X0_takes (by decide +kernel) (by decide +kernel)
theorem cv_RX0_35 : CV RX0 35 yX0_readTerm cX0_readTerm 6 ((Option.some FieldType.boolean)) 0 2 := CV.mk' rfl qM_RX0_35 qI_X0_readTerm qS_X0_readTerm qN_RX0 qC_X0_readTerm (by decide +kernel) (by decide +kernel)
theorem cv_RX0_39 : CV RX0 39 yX0_readDigits cX0_readDigits 5 ((Option.some FieldType.int)) 0 1 := CV.mk' rfl qM_RX0_39 qI_X0_readDigits qS_X0_readDigits qN_RX0 qC_X0_readDigits (by decide +kernel) (by decide +kernel)
theorem cs_RX0_52 : CS RX0 52 yJ9_max_7cf53 cJ9_max_7cf53 2 ((Option.some FieldType.int)) 2 := CS.mk' qM_RX0_52 qT_J9_max_7cf53 qN_RJ9 qC_J9_max_7cf53 (by decide +kernel) (by decide +kernel)
theorem cv_RX0_43 : CV RX0 43 yX0_readExponent cX0_readExponent 1 ((Option.some FieldType.int)) 0 0 := CV.mk' rfl qM_RX0_43 qI_X0_readExponent qS_X0_readExponent qN_RX0 qC_X0_readExponent (by decide +kernel) (by decide +kernel)
theorem cv_RX0_46 : CV RX0 46 yX6_plusTerm cX6_plusTerm 3 ((Option.none : Option FieldType)) 6 2 := CV.mk' rfl qM_RX0_46 qI_X6_plusTerm qS_X6_plusTerm qN_RX6 qC_X6_plusTerm (by decide +kernel) (by decide +kernel)
theorem cv_RL_152 : CV RL 152 yX7_format cX7_format 2 ((Option.some FieldType.int)) 7 1 := CV.mk' rfl qM_RL_152 qI_X7_format qS_X7_format qN_RX7 qC_X7_format (by decide +kernel) (by decide +kernel)
theorem cv_RX7_255 : CV RX7 255 yX1_writeSeries cX1_writeSeries 4 ((Option.none : Option FieldType)) 1 2 := CV.mk' rfl qM_RX7_255 qI_X1_writeSeries qS_X1_writeSeries qN_RX1 qC_X1_writeSeries (by decide +kernel) (by decide +kernel)
theorem cv_RX1_19 : CV RX1 19 yX1_writeTerm cX1_writeTerm 4 ((Option.none : Option FieldType)) 1 2 := CV.mk' rfl qM_RX1_19 qI_X1_writeTerm qS_X1_writeTerm qN_RX1 qC_X1_writeTerm (by decide +kernel) (by decide +kernel)
theorem cv_RX1_23 : CV RX1 23 yX1_put cX1_put 2 ((Option.none : Option FieldType)) 1 1 := CV.mk' rfl qM_RX1_23 qI_X1_put qS_X1_put qN_RX1 qC_X1_put (by decide +kernel) (by decide +kernel)
theorem cs_RX1_27 : CS RX1 27 yJ9_abs_0f7a4 cJ9_abs_0f7a4 1 ((Option.some FieldType.int)) 1 := CS.mk' qM_RX1_27 qT_J9_abs_0f7a4 qN_RJ9 qC_J9_abs_0f7a4 (by decide +kernel) (by decide +kernel)
theorem cv_RX1_33 : CV RX1 33 yX1_writeNumber cX1_writeNumber 3 ((Option.none : Option FieldType)) 1 1 := CV.mk' rfl qM_RX1_33 qI_X1_writeNumber qS_X1_writeNumber qN_RX1 qC_X1_writeNumber (by decide +kernel) (by decide +kernel)
theorem cv_RL_156 : CV RL 156 yX7_outputByte cX7_outputByte 2 ((Option.some FieldType.int)) 7 1 := CV.mk' rfl qM_RL_156 qI_X7_outputByte qS_X7_outputByte qN_RX7 qC_X7_outputByte (by decide +kernel) (by decide +kernel)
theorem cv_RL_160 : CV RL 160 yX7_allocate cX7_allocate 4 ((Option.some FieldType.int)) 7 3 := CV.mk' rfl qM_RL_160 qI_X7_allocate qS_X7_allocate qN_RX7 qC_X7_allocate (by decide +kernel) (by decide +kernel)
theorem cs_RX7_263 : CS RX7 263 yX7_isSlot cX7_isSlot 1 ((Option.some FieldType.boolean)) 1 := CS.mk' qM_RX7_263 qT_X7_isSlot qN_RX7 qC_X7_isSlot (by decide +kernel) (by decide +kernel)
theorem cv_RX7_266 : CV RX7 266 yX4_fillNew cX4_fillNew 3 ((Option.none : Option FieldType)) 4 2 := CV.mk' rfl qM_RX7_266 qI_X4_fillNew qS_X4_fillNew qN_RX4 qC_X4_fillNew (by decide +kernel) (by decide +kernel)
theorem cs_RX4_26 : CS RX4 26 yJ7_fill_d0a16 cJ7_fill_d0a16 5 ((Option.none : Option FieldType)) 2 := CS.mk' qM_RX4_26 qT_J7_fill_d0a16 qN_RJ7 qC_J7_fill_d0a16 (by decide +kernel) (by decide +kernel)
theorem cv_RL_164 : CV RL 164 yX7_release cX7_release 2 ((Option.some FieldType.int)) 7 1 := CV.mk' rfl qM_RL_164 qI_X7_release qS_X7_release qN_RX7 qC_X7_release (by decide +kernel) (by decide +kernel)
theorem cv_RL_170 : CV RL 170 yX7_putElement cX7_putElement 6 ((Option.some FieldType.int)) 7 3 := CV.mk' rfl qM_RL_170 qI_X7_putElement qS_X7_putElement qN_RX7 qC_X7_putElement (by decide +kernel) (by decide +kernel)
theorem cv_RX7_272 : CV RX7 272 yX4_hasIndex cX4_hasIndex 2 ((Option.some FieldType.boolean)) 4 1 := CV.mk' rfl qM_RX7_272 qI_X4_hasIndex qS_X4_hasIndex qN_RX4 qC_X4_hasIndex (by decide +kernel) (by decide +kernel)
theorem cv_RX7_278 : CV RX7 278 yX4_narrowed cX4_narrowed 3 ((Option.some FieldType.long)) 4 1 := CV.mk' rfl qM_RX7_278 qI_X4_narrowed qS_X4_narrowed qN_RX4 qC_X4_narrowed (by decide +kernel) (by decide +kernel)
theorem cv_RL_175 : CV RL 175 yX7_element cX7_element 4 ((Option.some FieldType.long)) 7 2 := CV.mk' rfl qM_RL_175 qI_X7_element qS_X7_element qN_RX7 qC_X7_element (by decide +kernel) (by decide +kernel)
theorem cv_RL_179 : CV RL 179 yX7_copyElements cX7_copyElements 8 ((Option.some FieldType.int)) 7 5 := CV.mk' rfl qM_RL_179 qI_X7_copyElements qS_X7_copyElements qN_RX7 qC_X7_copyElements (by decide +kernel) (by decide +kernel)
theorem cv_RX7_285 : CV RX7 285 yX4_hasRange cX4_hasRange 3 ((Option.some FieldType.boolean)) 4 2 := CV.mk' rfl qM_RX7_285 qI_X4_hasRange qS_X4_hasRange qN_RX4 qC_X4_hasRange (by decide +kernel) (by decide +kernel)
theorem cv_RL_184 : CV RL 184 yX7_compareWithArray cX7_compareWithArray 7 ((Option.some FieldType.int)) 7 2 := CV.mk' rfl qM_RL_184 qI_X7_compareWithArray qS_X7_compareWithArray qN_RX7 qC_X7_compareWithArray (by decide +kernel) (by decide +kernel)
theorem cs_RX7_297 : CS RX7 297 yJ9_min_7cf53 cJ9_min_7cf53 2 ((Option.some FieldType.int)) 2 := CS.mk' qM_RX7_297 qT_J9_min_7cf53 qN_RJ9 qC_J9_min_7cf53 (by decide +kernel) (by decide +kernel)
theorem cv_RL_188 : CV RL 188 yX7_snapshot cX7_snapshot 1 ((Option.some FieldType.int)) 7 0 := CV.mk' rfl qM_RL_188 qI_X7_snapshot qS_X7_snapshot qN_RX7 qC_X7_snapshot (by decide +kernel) (by decide +kernel)
theorem cv_RX7_300 : CV RX7 300 yX5_copyFrom cX5_copyFrom 3 ((Option.none : Option FieldType)) 5 1 := CV.mk' rfl qM_RX7_300 qI_X5_copyFrom qS_X5_copyFrom qN_RX5 qC_X5_copyFrom (by decide +kernel) (by decide +kernel)
theorem cv_RL_192 : CV RL 192 yX7_restore cX7_restore 1 ((Option.some FieldType.int)) 7 0 := CV.mk' rfl qM_RL_192 qI_X7_restore qS_X7_restore qN_RX7 qC_X7_restore (by decide +kernel) (by decide +kernel)
theorem cv_RX8_86 : CV RX8 86 yX8_makeUnitPair cX8_makeUnitPair 2 ((Option.none : Option FieldType)) 8 0 := CV.mk' rfl qM_RX8_86 qI_X8_makeUnitPair qS_X8_makeUnitPair qN_RX8 qC_X8_makeUnitPair (by decide +kernel) (by decide +kernel)
theorem cv_RX8_196 : CV RX8 196 yX8_findAlpha cX8_findAlpha 3 ((Option.some FieldType.boolean)) 8 0 := CV.mk' rfl qM_RX8_196 qI_X8_findAlpha qS_X8_findAlpha qN_RX8 qC_X8_findAlpha (by decide +kernel) (by decide +kernel)
theorem cv_RX8_129 : CV RX8 129 yX8_load cX8_load 5 ((Option.none : Option FieldType)) 8 3 := CV.mk' rfl qM_RX8_129 qI_X8_load qS_X8_load qN_RX8 qC_X8_load (by decide +kernel) (by decide +kernel)
theorem cv_RX8_179 : CV RX8 179 yX8_addTerm cX8_addTerm 6 ((Option.none : Option FieldType)) 8 4 := CV.mk' rfl qM_RX8_179 qI_X8_addTerm qS_X8_addTerm qN_RX8 qC_X8_addTerm (by decide +kernel) (by decide +kernel)
theorem cv_RX8_175 : CV RX8 175 yX8_timesPochhammer cX8_timesPochhammer 6 ((Option.none : Option FieldType)) 8 4 := CV.mk' rfl qM_RX8_175 qI_X8_timesPochhammer qS_X8_timesPochhammer qN_RX8 qC_X8_timesPochhammer (by decide +kernel) (by decide +kernel)
theorem cv_RX8_89 : CV RX8 89 yX8_timesBinomial cX8_timesBinomial 5 ((Option.none : Option FieldType)) 8 3 := CV.mk' rfl qM_RX8_89 qI_X8_timesBinomial qS_X8_timesBinomial qN_RX8 qC_X8_timesBinomial (by decide +kernel) (by decide +kernel)
theorem cv_RX8_182 : CV RX8 182 yX8_keepsOther cX8_keepsOther 4 ((Option.some FieldType.boolean)) 8 2 := CV.mk' rfl qM_RX8_182 qI_X8_keepsOther qS_X8_keepsOther qN_RX8 qC_X8_keepsOther (by decide +kernel) (by decide +kernel)
theorem cs_RX8_97 : CS RX8 97 yX8_isInRange cX8_isInRange 3 ((Option.some FieldType.boolean)) 1 := CS.mk' qM_RX8_97 qT_X8_isInRange qN_RX8 qC_X8_isInRange (by decide +kernel) (by decide +kernel)
theorem cs_RX8_7 : CS RX8 7 yX8_isBetween cX8_isBetween 6 ((Option.some FieldType.boolean)) 3 := CS.mk' qM_RX8_7 qT_X8_isBetween qN_RX8 qC_X8_isBetween (by decide +kernel) (by decide +kernel)
theorem cv_RX8_200 : CV RX8 200 yX8_takesNewPair cX8_takesNewPair 1 ((Option.none : Option FieldType)) 8 0 := CV.mk' rfl qM_RX8_200 qI_X8_takesNewPair qS_X8_takesNewPair qN_RX8 qC_X8_takesNewPair (by decide +kernel) (by decide +kernel)
theorem cs_RX8_186 : CS RX8 186 yX8_copyPair cX8_copyPair 5 ((Option.none : Option FieldType)) 4 := CS.mk' qM_RX8_186 qT_X8_copyPair qN_RX8 qC_X8_copyPair (by decide +kernel) (by decide +kernel)
theorem cv_RL_17 : CV RL 17 yX8_reset cX8_reset 4 ((Option.some FieldType.int)) 8 1 := CV.mk' rfl qM_RL_17 qI_X8_reset qS_X8_reset qN_RX8 qC_X8_reset (by decide +kernel) (by decide +kernel)
theorem cv_RL_22 : CV RL 22 yX8_precision cX8_precision 1 ((Option.some FieldType.int)) 8 0 := CV.mk' rfl qM_RL_22 qI_X8_precision qS_X8_precision qN_RX8 qC_X8_precision (by decide +kernel) (by decide +kernel)
theorem cv_RL_27 : CV RL 27 yX8_setCoefficient cX8_setCoefficient 6 ((Option.some FieldType.int)) 8 3 := CV.mk' rfl qM_RL_27 qI_X8_setCoefficient qS_X8_setCoefficient qN_RX8 qC_X8_setCoefficient (by decide +kernel) (by decide +kernel)
theorem cs_RX8_112 : CS RX8 112 yX8_isRegister cX8_isRegister 1 ((Option.some FieldType.boolean)) 1 := CS.mk' qM_RX8_112 qT_X8_isRegister qN_RX8 qC_X8_isRegister (by decide +kernel) (by decide +kernel)
theorem cv_RL_32 : CV RL 32 yX8_coefficient cX8_coefficient 3 ((Option.some FieldType.long)) 8 2 := CV.mk' rfl qM_RL_32 qI_X8_coefficient qS_X8_coefficient qN_RX8 qC_X8_coefficient (by decide +kernel) (by decide +kernel)
theorem cv_RL_36 : CV RL 36 yX8_order cX8_order 2 ((Option.some FieldType.int)) 8 1 := CV.mk' rfl qM_RL_36 qI_X8_order qS_X8_order qN_RX8 qC_X8_order (by decide +kernel) (by decide +kernel)
theorem cv_RX8_118 : CV RX8 118 yX8_lowest cX8_lowest 3 ((Option.some FieldType.int)) 8 1 := CV.mk' rfl qM_RX8_118 qI_X8_lowest qS_X8_lowest qN_RX8 qC_X8_lowest (by decide +kernel) (by decide +kernel)
theorem cv_RL_40 : CV RL 40 yX8_degree cX8_degree 2 ((Option.some FieldType.int)) 8 1 := CV.mk' rfl qM_RL_40 qI_X8_degree qS_X8_degree qN_RX8 qC_X8_degree (by decide +kernel) (by decide +kernel)
theorem cv_RX8_122 : CV RX8 122 yX8_highest cX8_highest 4 ((Option.some FieldType.int)) 8 1 := CV.mk' rfl qM_RX8_122 qI_X8_highest qS_X8_highest qN_RX8 qC_X8_highest (by decide +kernel) (by decide +kernel)
theorem cv_RL_45 : CV RL 45 yX8_add cX8_add 6 ((Option.some FieldType.int)) 8 4 := CV.mk' rfl qM_RL_45 qI_X8_add qS_X8_add qN_RX8 qC_X8_add (by decide +kernel) (by decide +kernel)
theorem cv_RX8_133 : CV RX8 133 yX8_store cX8_store 3 ((Option.some FieldType.int)) 8 1 := CV.mk' rfl qM_RX8_133 qI_X8_store qS_X8_store qN_RX8 qC_X8_store (by decide +kernel) (by decide +kernel)
theorem cv_RX8_101 : CV RX8 101 yX8_nonzero cX8_nonzero 4 ((Option.some FieldType.int)) 8 1 := CV.mk' rfl qM_RX8_101 qI_X8_nonzero qS_X8_nonzero qN_RX8 qC_X8_nonzero (by decide +kernel) (by decide +kernel)
theorem cv_RL_49 : CV RL 49 yX8_multiply cX8_multiply 6 ((Option.some FieldType.int)) 8 3 := CV.mk' rfl qM_RL_49 qI_X8_multiply qS_X8_multiply qN_RX8 qC_X8_multiply (by decide +kernel) (by decide +kernel)
theorem cv_RX8_136 : CV RX8 136 yX8_makeZero cX8_makeZero 3 ((Option.none : Option FieldType)) 8 1 := CV.mk' rfl qM_RX8_136 qI_X8_makeZero qS_X8_makeZero qN_RX8 qC_X8_makeZero (by decide +kernel) (by decide +kernel)
theorem cv_RL_53 : CV RL 53 yX8_divide cX8_divide 10 ((Option.some FieldType.int)) 8 3 := CV.mk' rfl qM_RL_53 qI_X8_divide qS_X8_divide qN_RX8 qC_X8_divide (by decide +kernel) (by decide +kernel)
theorem cv_RL_57 : CV RL 57 yX8_shift cX8_shift 4 ((Option.some FieldType.int)) 8 3 := CV.mk' rfl qM_RL_57 qI_X8_shift qS_X8_shift qN_RX8 qC_X8_shift (by decide +kernel) (by decide +kernel)
theorem cv_RX8_144 : CV RX8 144 yX8_shiftBy cX8_shiftBy 4 ((Option.none : Option FieldType)) 8 2 := CV.mk' rfl qM_RX8_144 qI_X8_shiftBy qS_X8_shiftBy qN_RX8 qC_X8_shiftBy (by decide +kernel) (by decide +kernel)
theorem cv_RL_61 : CV RL 61 yX8_substitute cX8_substitute 5 ((Option.some FieldType.int)) 8 3 := CV.mk' rfl qM_RL_61 qI_X8_substitute qS_X8_substitute qN_RX8 qC_X8_substitute (by decide +kernel) (by decide +kernel)
theorem cv_RL_65 : CV RL 65 yX8_product cX8_product 7 ((Option.some FieldType.int)) 8 4 := CV.mk' rfl qM_RL_65 qI_X8_product qS_X8_product qN_RX8 qC_X8_product (by decide +kernel) (by decide +kernel)
theorem cs_RX8_152 : CS RX8 152 yX8_isResidueSet cX8_isResidueSet 2 ((Option.some FieldType.boolean)) 2 := CS.mk' qM_RX8_152 qT_X8_isResidueSet qN_RX8 qC_X8_isResidueSet (by decide +kernel) (by decide +kernel)
theorem cv_RX8_160 : CV RX8 160 yX8_makeOne cX8_makeOne 3 ((Option.none : Option FieldType)) 8 1 := CV.mk' rfl qM_RX8_160 qI_X8_makeOne qS_X8_makeOne qN_RX8 qC_X8_makeOne (by decide +kernel) (by decide +kernel)
theorem cv_RL_70 : CV RL 70 yX8_firstDifference cX8_firstDifference 4 ((Option.some FieldType.int)) 8 2 := CV.mk' rfl qM_RL_70 qI_X8_firstDifference qS_X8_firstDifference qN_RX8 qC_X8_firstDifference (by decide +kernel) (by decide +kernel)
theorem cv_RL_74 : CV RL 74 yX8_valueAt cX8_valueAt 6 ((Option.some FieldType.int)) 8 2 := CV.mk' rfl qM_RL_74 qI_X8_valueAt qS_X8_valueAt qN_RX8 qC_X8_valueAt (by decide +kernel) (by decide +kernel)
theorem cs_RX8_165 : CS RX8 165 yX8_remainder cX8_remainder 4 ((Option.some FieldType.long)) 1 := CS.mk' qM_RX8_165 qT_X8_remainder qN_RX8 qC_X8_remainder (by decide +kernel) (by decide +kernel)
theorem cv_RL_78 : CV RL 78 yX8_statistic cX8_statistic 13 ((Option.some FieldType.int)) 8 2 := CV.mk' rfl qM_RL_78 qI_X8_statistic qS_X8_statistic qN_RX8 qC_X8_statistic (by decide +kernel) (by decide +kernel)
theorem cs_RX8_169 : CS RX8 169 yX8_absolute cX8_absolute 2 ((Option.some FieldType.long)) 1 := CS.mk' qM_RX8_169 qT_X8_absolute qN_RX8 qC_X8_absolute (by decide +kernel) (by decide +kernel)
theorem cv_RL_82 : CV RL 82 yX8_registerByRank cX8_registerByRank 6 ((Option.some FieldType.int)) 8 1 := CV.mk' rfl qM_RL_82 qI_X8_registerByRank qS_X8_registerByRank qN_RX8 qC_X8_registerByRank (by decide +kernel) (by decide +kernel)
theorem cv_RX8_172 : CV RX8 172 yX8_isRankedBefore cX8_isRankedBefore 5 ((Option.some FieldType.boolean)) 8 2 := CV.mk' rfl qM_RX8_172 qI_X8_isRankedBefore qS_X8_isRankedBefore qN_RX8 qC_X8_isRankedBefore (by decide +kernel) (by decide +kernel)
theorem cv_RL_86 : CV RL 86 yX8_unitPair cX8_unitPair 2 ((Option.some FieldType.int)) 8 1 := CV.mk' rfl qM_RL_86 qI_X8_unitPair qS_X8_unitPair qN_RX8 qC_X8_unitPair (by decide +kernel) (by decide +kernel)
theorem cv_RL_90 : CV RL 90 yX8_setAlpha cX8_setAlpha 4 ((Option.some FieldType.int)) 8 2 := CV.mk' rfl qM_RL_90 qI_X8_setAlpha qS_X8_setAlpha qN_RX8 qC_X8_setAlpha (by decide +kernel) (by decide +kernel)
theorem cv_RX8_203 : CV RX8 203 yX8_replace cX8_replace 6 ((Option.some FieldType.int)) 8 3 := CV.mk' rfl qM_RX8_203 qI_X8_replace qS_X8_replace qN_RX8 qC_X8_replace (by decide +kernel) (by decide +kernel)
theorem cv_RX8_207 : CV RX8 207 yX8_findBeta cX8_findBeta 4 ((Option.some FieldType.boolean)) 8 0 := CV.mk' rfl qM_RX8_207 qI_X8_findBeta qS_X8_findBeta qN_RX8 qC_X8_findBeta (by decide +kernel) (by decide +kernel)
theorem cv_RL_94 : CV RL 94 yX8_setBeta cX8_setBeta 4 ((Option.some FieldType.int)) 8 2 := CV.mk' rfl qM_RL_94 qI_X8_setBeta qS_X8_setBeta qN_RX8 qC_X8_setBeta (by decide +kernel) (by decide +kernel)
theorem cv_RL_98 : CV RL 98 yX8_step cX8_step 5 ((Option.some FieldType.int)) 8 0 := CV.mk' rfl qM_RL_98 qI_X8_step qS_X8_step qN_RX8 qC_X8_step (by decide +kernel) (by decide +kernel)
theorem cv_RX8_210 : CV RX8 210 yX8_loadWeighted cX8_loadWeighted 4 ((Option.none : Option FieldType)) 8 3 := CV.mk' rfl qM_RX8_210 qI_X8_loadWeighted qS_X8_loadWeighted qN_RX8 qC_X8_loadWeighted (by decide +kernel) (by decide +kernel)
theorem cv_RX8_213 : CV RX8 213 yX8_remember cX8_remember 2 ((Option.none : Option FieldType)) 8 0 := CV.mk' rfl qM_RX8_213 qI_X8_remember qS_X8_remember qN_RX8 qC_X8_remember (by decide +kernel) (by decide +kernel)
theorem cv_RL_102 : CV RL 102 yX8_undoStep cX8_undoStep 1 ((Option.some FieldType.int)) 8 0 := CV.mk' rfl qM_RL_102 qI_X8_undoStep qS_X8_undoStep qN_RX8 qC_X8_undoStep (by decide +kernel) (by decide +kernel)
theorem cv_RL_106 : CV RL 106 yX8_chainLength cX8_chainLength 1 ((Option.some FieldType.int)) 8 0 := CV.mk' rfl qM_RL_106 qI_X8_chainLength qS_X8_chainLength qN_RX8 qC_X8_chainLength (by decide +kernel) (by decide +kernel)
theorem cv_RL_110 : CV RL 110 yX8_copyAlpha cX8_copyAlpha 3 ((Option.some FieldType.int)) 8 2 := CV.mk' rfl qM_RL_110 qI_X8_copyAlpha qS_X8_copyAlpha qN_RX8 qC_X8_copyAlpha (by decide +kernel) (by decide +kernel)
theorem cv_RX8_216 : CV RX8 216 yX8_copySeries cX8_copySeries 4 ((Option.some FieldType.int)) 8 3 := CV.mk' rfl qM_RX8_216 qI_X8_copySeries qS_X8_copySeries qN_RX8 qC_X8_copySeries (by decide +kernel) (by decide +kernel)
theorem cv_RL_114 : CV RL 114 yX8_copyBeta cX8_copyBeta 3 ((Option.some FieldType.int)) 8 2 := CV.mk' rfl qM_RL_114 qI_X8_copyBeta qS_X8_copyBeta qN_RX8 qC_X8_copyBeta (by decide +kernel) (by decide +kernel)
theorem cv_RL_118 : CV RL 118 yX8_sumSide cX8_sumSide 2 ((Option.some FieldType.int)) 8 1 := CV.mk' rfl qM_RL_118 qI_X8_sumSide qS_X8_sumSide qN_RX8 qC_X8_sumSide (by decide +kernel) (by decide +kernel)
theorem cv_RX8_219 : CV RX8 219 yX8_sumWeighted cX8_sumWeighted 4 ((Option.none : Option FieldType)) 8 1 := CV.mk' rfl qM_RX8_219 qI_X8_sumWeighted qS_X8_sumWeighted qN_RX8 qC_X8_sumWeighted (by decide +kernel) (by decide +kernel)
theorem cv_RL_122 : CV RL 122 yX8_productSide cX8_productSide 3 ((Option.some FieldType.int)) 8 1 := CV.mk' rfl qM_RL_122 qI_X8_productSide qS_X8_productSide qN_RX8 qC_X8_productSide (by decide +kernel) (by decide +kernel)
theorem cv_RL_127 : CV RL 127 yX8_countPartitions cX8_countPartitions 6 ((Option.some FieldType.long)) 8 3 := CV.mk' rfl qM_RL_127 qI_X8_countPartitions qS_X8_countPartitions qN_RX8 qC_X8_countPartitions (by decide +kernel) (by decide +kernel)
theorem cv_RL_131 : CV RL 131 yX8_listPartitions cX8_listPartitions 3 ((Option.some FieldType.int)) 8 1 := CV.mk' rfl qM_RL_131 qI_X8_listPartitions qS_X8_listPartitions qN_RX8 qC_X8_listPartitions (by decide +kernel) (by decide +kernel)
theorem cv_RX8_229 : CV RX8 229 yX8_isNext cX8_isNext 4 ((Option.some FieldType.boolean)) 8 0 := CV.mk' rfl qM_RX8_229 qI_X8_isNext qS_X8_isNext qN_RX8 qC_X8_isNext (by decide +kernel) (by decide +kernel)
theorem cv_RL_135 : CV RL 135 yX8_filterPartitions cX8_filterPartitions 5 ((Option.some FieldType.int)) 8 0 := CV.mk' rfl qM_RL_135 qI_X8_filterPartitions qS_X8_filterPartitions qN_RX8 qC_X8_filterPartitions (by decide +kernel) (by decide +kernel)
theorem cv_RX8_245 : CV RX8 245 yX8_wordInInput cX8_wordInInput 4 ((Option.some FieldType.int)) 8 0 := CV.mk' rfl qM_RX8_245 qI_X8_wordInInput qS_X8_wordInInput qN_RX8 qC_X8_wordInInput (by decide +kernel) (by decide +kernel)
theorem cv_RX8_249 : CV RX8 249 yX8_passes cX8_passes 7 ((Option.some FieldType.boolean)) 8 2 := CV.mk' rfl qM_RX8_249 qI_X8_passes qS_X8_passes qN_RX8 qC_X8_passes (by decide +kernel) (by decide +kernel)
theorem cv_RX8_236 : CV RX8 236 yX8_partCount cX8_partCount 3 ((Option.some FieldType.int)) 8 1 := CV.mk' rfl qM_RX8_236 qI_X8_partCount qS_X8_partCount qN_RX8 qC_X8_partCount (by decide +kernel) (by decide +kernel)
theorem cv_RX8_232 : CV RX8 232 yX8_partAt cX8_partAt 3 ((Option.some FieldType.int)) 8 2 := CV.mk' rfl qM_RX8_232 qI_X8_partAt qS_X8_partAt qN_RX8 qC_X8_partAt (by decide +kernel) (by decide +kernel)
theorem cv_RX8_239 : CV RX8 239 yX8_isSelfConjugate cX8_isSelfConjugate 6 ((Option.some FieldType.boolean)) 8 1 := CV.mk' rfl qM_RX8_239 qI_X8_isSelfConjugate qS_X8_isSelfConjugate qN_RX8 qC_X8_isSelfConjugate (by decide +kernel) (by decide +kernel)
theorem cv_RL_139 : CV RL 139 yX8_part cX8_part 3 ((Option.some FieldType.int)) 8 2 := CV.mk' rfl qM_RL_139 qI_X8_part qS_X8_part qN_RX8 qC_X8_part (by decide +kernel) (by decide +kernel)
theorem cv_RL_143 : CV RL 143 yX8_append cX8_append 4 ((Option.some FieldType.int)) 8 2 := CV.mk' rfl qM_RL_143 qI_X8_append qS_X8_append qN_RX8 qC_X8_append (by decide +kernel) (by decide +kernel)
theorem cv_RL_147 : CV RL 147 yX8_clearInput cX8_clearInput 2 ((Option.some FieldType.int)) 8 0 := CV.mk' rfl qM_RL_147 qI_X8_clearInput qS_X8_clearInput qN_RX8 qC_X8_clearInput (by decide +kernel) (by decide +kernel)
theorem cv_RL_151 : CV RL 151 yX8_parseSeries cX8_parseSeries 3 ((Option.some FieldType.int)) 8 1 := CV.mk' rfl qM_RL_151 qI_X8_parseSeries qS_X8_parseSeries qN_RX8 qC_X8_parseSeries (by decide +kernel) (by decide +kernel)
theorem cv_RX8_271 : CV RX8 271 yX8_readsSeries cX8_readsSeries 3 ((Option.some FieldType.boolean)) 8 0 := CV.mk' rfl qM_RX8_271 qI_X8_readsSeries qS_X8_readsSeries qN_RX8 qC_X8_readsSeries (by decide +kernel) (by decide +kernel)
theorem cv_RX8_255 : CV RX8 255 yX8_here cX8_here 1 ((Option.some FieldType.int)) 8 0 := CV.mk' rfl qM_RX8_255 qI_X8_here qS_X8_here qN_RX8 qC_X8_here (by decide +kernel) (by decide +kernel)
theorem cv_RX8_268 : CV RX8 268 yX8_readsTerm cX8_readsTerm 4 ((Option.some FieldType.boolean)) 8 1 := CV.mk' rfl qM_RX8_268 qI_X8_readsTerm qS_X8_readsTerm qN_RX8 qC_X8_readsTerm (by decide +kernel) (by decide +kernel)
theorem cv_RX8_265 : CV RX8 265 yX8_readNumber cX8_readNumber 4 ((Option.some FieldType.int)) 8 1 := CV.mk' rfl qM_RX8_265 qI_X8_readNumber qS_X8_readNumber qN_RX8 qC_X8_readNumber (by decide +kernel) (by decide +kernel)
theorem cv_RX8_262 : CV RX8 262 yX8_isDigit cX8_isDigit 1 ((Option.some FieldType.boolean)) 8 0 := CV.mk' rfl qM_RX8_262 qI_X8_isDigit qS_X8_isDigit qN_RX8 qC_X8_isDigit (by decide +kernel) (by decide +kernel)
theorem cv_RL_155 : CV RL 155 yX8_format cX8_format 5 ((Option.some FieldType.int)) 8 1 := CV.mk' rfl qM_RL_155 qI_X8_format qS_X8_format qN_RX8 qC_X8_format (by decide +kernel) (by decide +kernel)
theorem cv_RX8_279 : CV RX8 279 yX8_write cX8_write 2 ((Option.none : Option FieldType)) 8 1 := CV.mk' rfl qM_RX8_279 qI_X8_write qS_X8_write qN_RX8 qC_X8_write (by decide +kernel) (by decide +kernel)
theorem cv_RX8_283 : CV RX8 283 yX8_writeNumber cX8_writeNumber 7 ((Option.none : Option FieldType)) 8 1 := CV.mk' rfl qM_RX8_283 qI_X8_writeNumber qS_X8_writeNumber qN_RX8 qC_X8_writeNumber (by decide +kernel) (by decide +kernel)
theorem cv_RL_159 : CV RL 159 yX8_outputByte cX8_outputByte 2 ((Option.some FieldType.int)) 8 1 := CV.mk' rfl qM_RL_159 qI_X8_outputByte qS_X8_outputByte qN_RX8 qC_X8_outputByte (by decide +kernel) (by decide +kernel)
theorem cv_RL_163 : CV RL 163 yX8_allocate cX8_allocate 5 ((Option.some FieldType.int)) 8 3 := CV.mk' rfl qM_RL_163 qI_X8_allocate qS_X8_allocate qN_RX8 qC_X8_allocate (by decide +kernel) (by decide +kernel)
theorem cs_RX8_287 : CS RX8 287 yX8_isSlot cX8_isSlot 1 ((Option.some FieldType.boolean)) 1 := CS.mk' qM_RX8_287 qT_X8_isSlot qN_RX8 qC_X8_isSlot (by decide +kernel) (by decide +kernel)
theorem cv_RL_167 : CV RL 167 yX8_release cX8_release 3 ((Option.some FieldType.int)) 8 1 := CV.mk' rfl qM_RL_167 qI_X8_release qS_X8_release qN_RX8 qC_X8_release (by decide +kernel) (by decide +kernel)
theorem cv_RL_174 : CV RL 174 yX8_putElement cX8_putElement 5 ((Option.some FieldType.int)) 8 3 := CV.mk' rfl qM_RL_174 qI_X8_putElement qS_X8_putElement qN_RX8 qC_X8_putElement (by decide +kernel) (by decide +kernel)
theorem cs_RX8_290 : CS RX8 290 yX8_narrow cX8_narrow 3 ((Option.some FieldType.long)) 2 := CS.mk' qM_RX8_290 qT_X8_narrow qN_RX8 qC_X8_narrow (by decide +kernel) (by decide +kernel)
theorem cv_RL_178 : CV RL 178 yX8_element cX8_element 3 ((Option.some FieldType.long)) 8 2 := CV.mk' rfl qM_RL_178 qI_X8_element qS_X8_element qN_RX8 qC_X8_element (by decide +kernel) (by decide +kernel)
theorem cv_RL_183 : CV RL 183 yX8_copyElements cX8_copyElements 7 ((Option.some FieldType.int)) 8 5 := CV.mk' rfl qM_RL_183 qI_X8_copyElements qS_X8_copyElements qN_RX8 qC_X8_copyElements (by decide +kernel) (by decide +kernel)
theorem cv_RL_187 : CV RL 187 yX8_compareWithArray cX8_compareWithArray 6 ((Option.some FieldType.int)) 8 2 := CV.mk' rfl qM_RL_187 qI_X8_compareWithArray qS_X8_compareWithArray qN_RX8 qC_X8_compareWithArray (by decide +kernel) (by decide +kernel)
theorem cv_RL_191 : CV RL 191 yX8_snapshot cX8_snapshot 1 ((Option.some FieldType.int)) 8 0 := CV.mk' rfl qM_RL_191 qI_X8_snapshot qS_X8_snapshot qN_RX8 qC_X8_snapshot (by decide +kernel) (by decide +kernel)
theorem cv_RX8_307 : CV RX8 307 yX8_passState cX8_passState 2 ((Option.none : Option FieldType)) 8 1 := CV.mk' rfl qM_RX8_307 qI_X8_passState qS_X8_passState qN_RX8 qC_X8_passState (by decide +kernel) (by decide +kernel)
theorem cv_RX8_301 : CV RX8 301 yX8_pass cX8_pass 5 ((Option.some FieldType.long)) 8 1 := CV.mk' rfl qM_RX8_301 qI_X8_pass qS_X8_pass qN_RX8 qC_X8_pass (by decide +kernel) (by decide +kernel)
theorem cv_RX8_304 : CV RX8 304 yX8_passAll cX8_passAll 3 ((Option.none : Option FieldType)) 8 1 := CV.mk' rfl qM_RX8_304 qI_X8_passAll qS_X8_passAll qN_RX8 qC_X8_passAll (by decide +kernel) (by decide +kernel)
theorem cv_RL_195 : CV RL 195 yX8_restore cX8_restore 1 ((Option.some FieldType.int)) 8 0 := CV.mk' rfl qM_RL_195 qI_X8_restore qS_X8_restore qN_RX8 qC_X8_restore (by decide +kernel) (by decide +kernel)
theorem cn_RX2_23 : CN RX2 23 yX7_copyRow cX7_copyRow 2 ((Option.none : Option FieldType)) 2 := ⟨by decide +kernel, qT_X7_copyRow, qN_RX7, qC_X7_copyRow, by decide +kernel, by decide +kernel⟩
theorem cn_RX2_69 : CN RX2 69 yX7_stepPower cX7_stepPower 2 ((Option.some FieldType.int)) 2 := ⟨by decide +kernel, qT_X7_stepPower, qN_RX7, qC_X7_stepPower, by decide +kernel, by decide +kernel⟩
theorem cn_RX5_37 : CN RX5 37 yX7_copyRow cX7_copyRow 2 ((Option.none : Option FieldType)) 2 := ⟨by decide +kernel, qT_X7_copyRow, qN_RX7, qC_X7_copyRow, by decide +kernel, by decide +kernel⟩
abbrev rmJ0_charAt_5068e : Room := { frames := 5, cells := 0, slots := 0, locals := 125 }
abbrev rmJ0_checkIndex_df160 : Room := { frames := 2, cells := 0, slots := 0, locals := 62 }
abbrev rmJ0_coder_7d493 : Room := { frames := 1, cells := 0, slots := 0, locals := 40 }
abbrev rmJ0_isLatin1_aae02 : Room := { frames := 1, cells := 0, slots := 0, locals := 40 }
abbrev rmJ0_length_8abf5 : Room := { frames := 2, cells := 0, slots := 0, locals := 60 }
abbrev rmJ1_charAt_3b067 : Room := { frames := 3, cells := 0, slots := 0, locals := 83 }
abbrev rmJ2_charAt_3b067 : Room := { frames := 4, cells := 0, slots := 0, locals := 104 }
abbrev rmJ2_checkIndex_2214a : Room := { frames := 3, cells := 0, slots := 0, locals := 83 }
abbrev rmJ2_getChar_3b067 : Room := { frames := 2, cells := 0, slots := 0, locals := 60 }
abbrev rmJ2_length_9d52b : Room := { frames := 1, cells := 0, slots := 0, locals := 40 }
abbrev rmJ3_checkIndex_8e157 : Room := { frames := 1, cells := 0, slots := 0, locals := 40 }
abbrev rmJ6_compare_7cf53 : Room := { frames := 1, cells := 0, slots := 0, locals := 40 }
abbrev rmJ7_fill_53178 : Room := { frames := 1, cells := 0, slots := 0, locals := 40 }
abbrev rmJ7_fill_d0a16 : Room := { frames := 1, cells := 0, slots := 0, locals := 40 }
abbrev rmJ9_abs_0f7a4 : Room := { frames := 1, cells := 0, slots := 0, locals := 40 }
abbrev rmJ9_floorMod_f86c9 : Room := { frames := 1, cells := 0, slots := 0, locals := 40 }
abbrev rmJ9_max_7cf53 : Room := { frames := 1, cells := 0, slots := 0, locals := 40 }
abbrev rmJ9_min_7cf53 : Room := { frames := 1, cells := 0, slots := 0, locals := 40 }
abbrev rmX0_holds : Room := { frames := 6, cells := 0, slots := 0, locals := 146 }
abbrev rmX0_put : Room := { frames := 1, cells := 0, slots := 0, locals := 40 }
abbrev rmX0_readDigits : Room := { frames := 1, cells := 0, slots := 0, locals := 40 }
abbrev rmX0_readExponent : Room := { frames := 2, cells := 0, slots := 0, locals := 64 }
abbrev rmX0_readSeries : Room := { frames := 4, cells := 0, slots := 0, locals := 109 }
abbrev rmX0_readTerm : Room := { frames := 3, cells := 0, slots := 0, locals := 84 }
abbrev rmX0_takes : Room := { frames := 1, cells := 0, slots := 0, locals := 40 }
abbrev rmX1_put : Room := { frames := 1, cells := 0, slots := 0, locals := 40 }
abbrev rmX1_writeNumber : Room := { frames := 2, cells := 0, slots := 0, locals := 61 }
abbrev rmX1_writeSeries : Room := { frames := 4, cells := 0, slots := 0, locals := 106 }
abbrev rmX1_writeTerm : Room := { frames := 3, cells := 0, slots := 0, locals := 83 }
abbrev rmX2_copyFrom : Room := { frames := 2, cells := 0, slots := 0, locals := 61 }
abbrev rmX2_deriveAlpha : Room := { frames := 4, cells := 0, slots := 0, locals := 109 }
abbrev rmX2_deriveBeta : Room := { frames := 4, cells := 0, slots := 0, locals := 109 }
abbrev rmX2_setNextOf : Room := { frames := 3, cells := 0, slots := 0, locals := 85 }
abbrev rmX2_setRelationTerm : Room := { frames := 3, cells := 0, slots := 0, locals := 85 }
abbrev rmX2_setUnit : Room := { frames := 5, cells := 0, slots := 0, locals := 134 }
abbrev rmX3_at : Room := { frames := 1, cells := 0, slots := 0, locals := 40 }
abbrev rmX3_countAtLeast : Room := { frames := 2, cells := 0, slots := 0, locals := 62 }
abbrev rmX3_fillFrom : Room := { frames := 2, cells := 0, slots := 0, locals := 63 }
abbrev rmX3_fillWith : Room := { frames := 4, cells := 0, slots := 0, locals := 114 }
abbrev rmX3_hasGaps : Room := { frames := 2, cells := 0, slots := 0, locals := 62 }
abbrev rmX3_hasOddPartsOnly : Room := { frames := 2, cells := 0, slots := 0, locals := 62 }
abbrev rmX3_isSelfConjugate : Room := { frames := 3, cells := 0, slots := 0, locals := 86 }
abbrev rmX3_keepOnly : Room := { frames := 5, cells := 0, slots := 0, locals := 130 }
abbrev rmX3_lastPlaceAboveOne : Room := { frames := 2, cells := 0, slots := 0, locals := 62 }
abbrev rmX3_makeNext : Room := { frames := 3, cells := 0, slots := 0, locals := 90 }
abbrev rmX3_passes : Room := { frames := 4, cells := 0, slots := 0, locals := 108 }
abbrev rmX3_put : Room := { frames := 1, cells := 0, slots := 0, locals := 40 }
abbrev rmX4_fillNew : Room := { frames := 2, cells := 0, slots := 0, locals := 64 }
abbrev rmX4_hasIndex : Room := { frames := 1, cells := 0, slots := 0, locals := 40 }
abbrev rmX4_hasRange : Room := { frames := 1, cells := 0, slots := 0, locals := 40 }
abbrev rmX4_narrowed : Room := { frames := 1, cells := 0, slots := 0, locals := 40 }
abbrev rmX5_copyFrom : Room := { frames := 3, cells := 0, slots := 0, locals := 83 }
abbrev rmX5_forgetOldest : Room := { frames := 1, cells := 0, slots := 0, locals := 40 }
abbrev rmX5_goBack : Room := { frames := 3, cells := 0, slots := 0, locals := 83 }
abbrev rmX5_goOnTo : Room := { frames := 3, cells := 0, slots := 0, locals := 83 }
abbrev rmX5_setPair : Room := { frames := 3, cells := 0, slots := 0, locals := 83 }
abbrev rmX6_fits : Room := { frames := 2, cells := 0, slots := 0, locals := 61 }
abbrev rmX6_isInRange : Room := { frames := 1, cells := 0, slots := 0, locals := 40 }
abbrev rmX6_overFactor : Room := { frames := 1, cells := 0, slots := 0, locals := 40 }
abbrev rmX6_overFactors : Room := { frames := 2, cells := 0, slots := 0, locals := 62 }
abbrev rmX6_plusRow : Room := { frames := 1, cells := 0, slots := 0, locals := 40 }
abbrev rmX6_plusShifted : Room := { frames := 1, cells := 0, slots := 0, locals := 40 }
abbrev rmX6_plusTerm : Room := { frames := 1, cells := 0, slots := 0, locals := 40 }
abbrev rmX6_plusWide : Room := { frames := 1, cells := 0, slots := 0, locals := 40 }
abbrev rmX6_setProduct : Room := { frames := 3, cells := 0, slots := 0, locals := 85 }
abbrev rmX6_setQuotient : Room := { frames := 3, cells := 0, slots := 0, locals := 85 }
abbrev rmX6_setZero : Room := { frames := 2, cells := 0, slots := 0, locals := 64 }
abbrev rmX6_timesFactor : Room := { frames := 1, cells := 0, slots := 0, locals := 40 }
abbrev rmX6_timesFactorToThe : Room := { frames := 2, cells := 0, slots := 0, locals := 62 }
abbrev rmX6_timesFactors : Room := { frames := 2, cells := 0, slots := 0, locals := 62 }
abbrev rmX6_writeTo : Room := { frames := 1, cells := 0, slots := 0, locals := 40 }
abbrev rmX7_add : Room := { frames := 4, cells := 0, slots := 0, locals := 103 }
abbrev rmX7_allocate : Room := { frames := 3, cells := 0, slots := 0, locals := 86 }
abbrev rmX7_append : Room := { frames := 2, cells := 0, slots := 0, locals := 61 }
abbrev rmX7_byteOf : Room := { frames := 1, cells := 0, slots := 0, locals := 40 }
abbrev rmX7_chainLength : Room := { frames := 1, cells := 0, slots := 0, locals := 40 }
abbrev rmX7_clearInput : Room := { frames := 1, cells := 0, slots := 0, locals := 40 }
abbrev rmX7_coefficient : Room := { frames := 2, cells := 0, slots := 0, locals := 61 }
abbrev rmX7_comesBefore : Room := { frames := 2, cells := 0, slots := 0, locals := 62 }
abbrev rmX7_compareWithArray : Room := { frames := 2, cells := 0, slots := 0, locals := 60 }
abbrev rmX7_copyAlpha : Room := { frames := 3, cells := 0, slots := 0, locals := 86 }
abbrev rmX7_copyBeta : Room := { frames := 3, cells := 0, slots := 0, locals := 86 }
abbrev rmX7_copyElements : Room := { frames := 2, cells := 0, slots := 0, locals := 62 }
abbrev rmX7_copyRow : Room := { frames := 1, cells := 0, slots := 0, locals := 40 }
abbrev rmX7_copyToRegister : Room := { frames := 2, cells := 0, slots := 0, locals := 63 }
abbrev rmX7_countNegative : Room := { frames := 1, cells := 0, slots := 0, locals := 40 }
abbrev rmX7_countNonzero : Room := { frames := 1, cells := 0, slots := 0, locals := 40 }
abbrev rmX7_countPartitions : Room := { frames := 2, cells := 0, slots := 0, locals := 64 }
abbrev rmX7_countRecords : Room := { frames := 1, cells := 0, slots := 0, locals := 40 }
abbrev rmX7_countSignChanges : Room := { frames := 2, cells := 0, slots := 0, locals := 61 }
abbrev rmX7_degree : Room := { frames := 2, cells := 0, slots := 0, locals := 62 }
abbrev rmX7_divide : Room := { frames := 4, cells := 0, slots := 0, locals := 112 }
abbrev rmX7_element : Room := { frames := 2, cells := 0, slots := 0, locals := 61 }
abbrev rmX7_filterInInput : Room := { frames := 7, cells := 0, slots := 0, locals := 168 }
abbrev rmX7_filterPartitions : Room := { frames := 8, cells := 0, slots := 0, locals := 188 }
abbrev rmX7_firstDifference : Room := { frames := 2, cells := 0, slots := 0, locals := 63 }
abbrev rmX7_format : Room := { frames := 5, cells := 0, slots := 0, locals := 129 }
abbrev rmX7_highestPower : Room := { frames := 1, cells := 0, slots := 0, locals := 40 }
abbrev rmX7_isInResidueSet : Room := { frames := 1, cells := 0, slots := 0, locals := 40 }
abbrev rmX7_isPairIndex : Room := { frames := 1, cells := 0, slots := 0, locals := 40 }
abbrev rmX7_isPower : Room := { frames := 1, cells := 0, slots := 0, locals := 40 }
abbrev rmX7_isRegister : Room := { frames := 1, cells := 0, slots := 0, locals := 40 }
abbrev rmX7_isResidueSet : Room := { frames := 1, cells := 0, slots := 0, locals := 40 }
abbrev rmX7_isSlot : Room := { frames := 1, cells := 0, slots := 0, locals := 40 }
abbrev rmX7_keepResult : Room := { frames := 3, cells := 0, slots := 0, locals := 82 }
abbrev rmX7_largestAbsolute : Room := { frames := 1, cells := 0, slots := 0, locals := 40 }
abbrev rmX7_listPartitions : Room := { frames := 5, cells := 0, slots := 0, locals := 135 }
abbrev rmX7_lowestDifference : Room := { frames := 1, cells := 0, slots := 0, locals := 40 }
abbrev rmX7_lowestPower : Room := { frames := 1, cells := 0, slots := 0, locals := 40 }
abbrev rmX7_multiply : Room := { frames := 4, cells := 0, slots := 0, locals := 110 }
abbrev rmX7_order : Room := { frames := 2, cells := 0, slots := 0, locals := 62 }
abbrev rmX7_outputByte : Room := { frames := 1, cells := 0, slots := 0, locals := 40 }
abbrev rmX7_parseSeries : Room := { frames := 5, cells := 0, slots := 0, locals := 132 }
abbrev rmX7_part : Room := { frames := 2, cells := 0, slots := 0, locals := 62 }
abbrev rmX7_precision : Room := { frames := 1, cells := 0, slots := 0, locals := 40 }
abbrev rmX7_product : Room := { frames := 4, cells := 0, slots := 0, locals := 103 }
abbrev rmX7_productSide : Room := { frames := 4, cells := 0, slots := 0, locals := 107 }
abbrev rmX7_putElement : Room := { frames := 2, cells := 0, slots := 0, locals := 62 }
abbrev rmX7_rankOf : Room := { frames := 3, cells := 0, slots := 0, locals := 88 }
abbrev rmX7_registerByRank : Room := { frames := 4, cells := 0, slots := 0, locals := 111 }
abbrev rmX7_release : Room := { frames := 2, cells := 0, slots := 0, locals := 60 }
abbrev rmX7_reset : Room := { frames := 8, cells := 0, slots := 0, locals := 202 }
abbrev rmX7_restore : Room := { frames := 4, cells := 0, slots := 0, locals := 105 }
abbrev rmX7_setAlpha : Room := { frames := 6, cells := 0, slots := 0, locals := 161 }
abbrev rmX7_setBeta : Room := { frames := 6, cells := 0, slots := 0, locals := 161 }
abbrev rmX7_setCoefficient : Room := { frames := 2, cells := 0, slots := 0, locals := 61 }
abbrev rmX7_setInPair : Room := { frames := 5, cells := 0, slots := 0, locals := 134 }
abbrev rmX7_setUnitPair : Room := { frames := 6, cells := 0, slots := 0, locals := 159 }
abbrev rmX7_shift : Room := { frames := 4, cells := 0, slots := 0, locals := 103 }
abbrev rmX7_snapshot : Room := { frames := 4, cells := 0, slots := 0, locals := 105 }
abbrev rmX7_startAgain : Room := { frames := 7, cells := 0, slots := 0, locals := 180 }
abbrev rmX7_statistic : Room := { frames := 3, cells := 0, slots := 0, locals := 86 }
abbrev rmX7_step : Room := { frames := 4, cells := 0, slots := 0, locals := 111 }
abbrev rmX7_stepPower : Room := { frames := 1, cells := 0, slots := 0, locals := 40 }
abbrev rmX7_substitute : Room := { frames := 4, cells := 0, slots := 0, locals := 103 }
abbrev rmX7_sumSide : Room := { frames := 4, cells := 0, slots := 0, locals := 107 }
abbrev rmX7_sumWithStepPowers : Room := { frames := 3, cells := 0, slots := 0, locals := 85 }
abbrev rmX7_undoStep : Room := { frames := 4, cells := 0, slots := 0, locals := 103 }
abbrev rmX7_unitPair : Room := { frames := 7, cells := 0, slots := 0, locals := 180 }
abbrev rmX7_valueAt : Room := { frames := 2, cells := 0, slots := 0, locals := 65 }
abbrev rmX8_absolute : Room := { frames := 1, cells := 0, slots := 0, locals := 40 }
abbrev rmX8_add : Room := { frames := 4, cells := 0, slots := 0, locals := 109 }
abbrev rmX8_addTerm : Room := { frames := 3, cells := 0, slots := 0, locals := 89 }
abbrev rmX8_allocate : Room := { frames := 3, cells := 0, slots := 0, locals := 85 }
abbrev rmX8_append : Room := { frames := 2, cells := 0, slots := 0, locals := 65 }
abbrev rmX8_chainLength : Room := { frames := 1, cells := 0, slots := 0, locals := 40 }
abbrev rmX8_clearInput : Room := { frames := 1, cells := 0, slots := 0, locals := 40 }
abbrev rmX8_coefficient : Room := { frames := 3, cells := 0, slots := 0, locals := 85 }
abbrev rmX8_compareWithArray : Room := { frames := 3, cells := 0, slots := 0, locals := 85 }
abbrev rmX8_copyAlpha : Room := { frames := 5, cells := 0, slots := 0, locals := 132 }
abbrev rmX8_copyBeta : Room := { frames := 5, cells := 0, slots := 0, locals := 132 }
abbrev rmX8_copyElements : Room := { frames := 3, cells := 0, slots := 0, locals := 85 }
abbrev rmX8_copyPair : Room := { frames := 1, cells := 0, slots := 0, locals := 40 }
abbrev rmX8_copySeries : Room := { frames := 4, cells := 0, slots := 0, locals := 109 }
abbrev rmX8_countPartitions : Room := { frames := 3, cells := 0, slots := 0, locals := 86 }
abbrev rmX8_degree : Room := { frames := 3, cells := 0, slots := 0, locals := 85 }
abbrev rmX8_divide : Room := { frames := 4, cells := 0, slots := 0, locals := 109 }
abbrev rmX8_element : Room := { frames := 3, cells := 0, slots := 0, locals := 85 }
abbrev rmX8_filterPartitions : Room := { frames := 5, cells := 0, slots := 0, locals := 135 }
abbrev rmX8_findAlpha : Room := { frames := 4, cells := 0, slots := 0, locals := 114 }
abbrev rmX8_findBeta : Room := { frames := 4, cells := 0, slots := 0, locals := 114 }
abbrev rmX8_firstDifference : Room := { frames := 3, cells := 0, slots := 0, locals := 85 }
abbrev rmX8_format : Room := { frames := 3, cells := 0, slots := 0, locals := 87 }
abbrev rmX8_here : Room := { frames := 1, cells := 0, slots := 0, locals := 40 }
abbrev rmX8_highest : Room := { frames := 1, cells := 0, slots := 0, locals := 40 }
abbrev rmX8_isBetween : Room := { frames := 1, cells := 0, slots := 0, locals := 40 }
abbrev rmX8_isDigit : Room := { frames := 2, cells := 0, slots := 0, locals := 65 }
abbrev rmX8_isInRange : Room := { frames := 2, cells := 0, slots := 0, locals := 65 }
abbrev rmX8_isNext : Room := { frames := 1, cells := 0, slots := 0, locals := 40 }
abbrev rmX8_isRankedBefore : Room := { frames := 2, cells := 0, slots := 0, locals := 63 }
abbrev rmX8_isRegister : Room := { frames := 2, cells := 0, slots := 0, locals := 65 }
abbrev rmX8_isResidueSet : Room := { frames := 2, cells := 0, slots := 0, locals := 65 }
abbrev rmX8_isSelfConjugate : Room := { frames := 3, cells := 0, slots := 0, locals := 84 }
abbrev rmX8_isSlot : Room := { frames := 2, cells := 0, slots := 0, locals := 65 }
abbrev rmX8_keepsOther : Room := { frames := 3, cells := 0, slots := 0, locals := 87 }
abbrev rmX8_listPartitions : Room := { frames := 2, cells := 0, slots := 0, locals := 65 }
abbrev rmX8_load : Room := { frames := 1, cells := 0, slots := 0, locals := 40 }
abbrev rmX8_loadWeighted : Room := { frames := 2, cells := 0, slots := 0, locals := 64 }
abbrev rmX8_lowest : Room := { frames := 1, cells := 0, slots := 0, locals := 40 }
abbrev rmX8_makeOne : Room := { frames := 1, cells := 0, slots := 0, locals := 40 }
abbrev rmX8_makeUnitPair : Room := { frames := 5, cells := 0, slots := 0, locals := 136 }
abbrev rmX8_makeZero : Room := { frames := 1, cells := 0, slots := 0, locals := 40 }
abbrev rmX8_multiply : Room := { frames := 4, cells := 0, slots := 0, locals := 109 }
abbrev rmX8_narrow : Room := { frames := 1, cells := 0, slots := 0, locals := 40 }
abbrev rmX8_nonzero : Room := { frames := 1, cells := 0, slots := 0, locals := 40 }
abbrev rmX8_order : Room := { frames := 3, cells := 0, slots := 0, locals := 85 }
abbrev rmX8_outputByte : Room := { frames := 2, cells := 0, slots := 0, locals := 65 }
abbrev rmX8_parseSeries : Room := { frames := 6, cells := 0, slots := 0, locals := 153 }
abbrev rmX8_part : Room := { frames := 3, cells := 0, slots := 0, locals := 84 }
abbrev rmX8_partAt : Room := { frames := 1, cells := 0, slots := 0, locals := 40 }
abbrev rmX8_partCount : Room := { frames := 2, cells := 0, slots := 0, locals := 62 }
abbrev rmX8_pass : Room := { frames := 1, cells := 0, slots := 0, locals := 40 }
abbrev rmX8_passAll : Room := { frames := 2, cells := 0, slots := 0, locals := 64 }
abbrev rmX8_passState : Room := { frames := 3, cells := 0, slots := 0, locals := 86 }
abbrev rmX8_passes : Room := { frames := 4, cells := 0, slots := 0, locals := 109 }
abbrev rmX8_precision : Room := { frames := 1, cells := 0, slots := 0, locals := 40 }
abbrev rmX8_product : Room := { frames := 4, cells := 0, slots := 0, locals := 109 }
abbrev rmX8_productSide : Room := { frames := 4, cells := 0, slots := 0, locals := 110 }
abbrev rmX8_putElement : Room := { frames := 3, cells := 0, slots := 0, locals := 85 }
abbrev rmX8_readNumber : Room := { frames := 3, cells := 0, slots := 0, locals := 85 }
abbrev rmX8_readsSeries : Room := { frames := 5, cells := 0, slots := 0, locals := 131 }
abbrev rmX8_readsTerm : Room := { frames := 4, cells := 0, slots := 0, locals := 108 }
abbrev rmX8_registerByRank : Room := { frames := 3, cells := 0, slots := 0, locals := 87 }
abbrev rmX8_release : Room := { frames := 3, cells := 0, slots := 0, locals := 85 }
abbrev rmX8_remainder : Room := { frames := 1, cells := 0, slots := 0, locals := 40 }
abbrev rmX8_remember : Room := { frames := 2, cells := 0, slots := 0, locals := 64 }
abbrev rmX8_replace : Room := { frames := 1, cells := 0, slots := 0, locals := 40 }
abbrev rmX8_reset : Room := { frames := 6, cells := 0, slots := 0, locals := 157 }
abbrev rmX8_restore : Room := { frames := 4, cells := 0, slots := 0, locals := 107 }
abbrev rmX8_setAlpha : Room := { frames := 5, cells := 0, slots := 0, locals := 137 }
abbrev rmX8_setBeta : Room := { frames := 5, cells := 0, slots := 0, locals := 136 }
abbrev rmX8_setCoefficient : Room := { frames := 3, cells := 0, slots := 0, locals := 85 }
abbrev rmX8_shift : Room := { frames := 4, cells := 0, slots := 0, locals := 109 }
abbrev rmX8_shiftBy : Room := { frames := 1, cells := 0, slots := 0, locals := 40 }
abbrev rmX8_snapshot : Room := { frames := 4, cells := 0, slots := 0, locals := 107 }
abbrev rmX8_statistic : Room := { frames := 3, cells := 0, slots := 0, locals := 85 }
abbrev rmX8_step : Room := { frames := 4, cells := 0, slots := 0, locals := 110 }
abbrev rmX8_store : Room := { frames := 3, cells := 0, slots := 0, locals := 87 }
abbrev rmX8_substitute : Room := { frames := 4, cells := 0, slots := 0, locals := 109 }
abbrev rmX8_sumSide : Room := { frames := 4, cells := 0, slots := 0, locals := 110 }
abbrev rmX8_sumWeighted : Room := { frames := 3, cells := 0, slots := 0, locals := 87 }
abbrev rmX8_takesNewPair : Room := { frames := 2, cells := 0, slots := 0, locals := 64 }
abbrev rmX8_timesBinomial : Room := { frames := 1, cells := 0, slots := 0, locals := 40 }
abbrev rmX8_timesPochhammer : Room := { frames := 2, cells := 0, slots := 0, locals := 64 }
abbrev rmX8_undoStep : Room := { frames := 2, cells := 0, slots := 0, locals := 64 }
abbrev rmX8_unitPair : Room := { frames := 6, cells := 0, slots := 0, locals := 157 }
abbrev rmX8_valueAt : Room := { frames := 3, cells := 0, slots := 0, locals := 85 }
abbrev rmX8_wordInInput : Room := { frames := 1, cells := 0, slots := 0, locals := 40 }
abbrev rmX8_write : Room := { frames := 1, cells := 0, slots := 0, locals := 40 }
abbrev rmX8_writeNumber : Room := { frames := 2, cells := 0, slots := 0, locals := 61 }
