set_option maxRecDepth 100000 in
theorem D_C_init : mx_decs prog_1_method_1_code T_C_init = true := by decide +kernel
set_option maxRecDepth 100000 in
theorem D_E_init : mx_decs prog_4_method_1_code T_E_init = true := by decide +kernel
set_option maxRecDepth 100000 in
theorem D_D_init : mx_decs prog_3_method_1_code T_D_init = true := by decide +kernel
set_option maxRecDepth 100000 in
theorem D_L_init : mx_decs prog_5_method_1_code T_L_init = true := by decide +kernel
set_option maxRecDepth 100000 in
theorem D_R_init : mx_decs prog_2_method_1_code T_R_init = true := by decide +kernel
set_option maxRecDepth 100000 in
theorem D_P_init : mx_decs prog_6_method_1_code T_P_init = true := by decide +kernel
set_option maxRecDepth 100000 in
theorem D_T_init : mx_decs prog_7_method_1_code T_T_init = true := by decide +kernel
set_option maxRecDepth 100000 in
theorem D_C_wiggle : mx_decs prog_1_method_16_code T_C_wiggle = true := by decide +kernel
set_option maxRecDepth 100000 in
theorem D_R_sumAt : mx_decs prog_2_method_3_code T_R_sumAt = true := by decide +kernel
set_option maxRecDepth 100000 in
theorem D_C_clear : mx_decs prog_1_method_17_code T_C_clear = true := by decide +kernel
set_option maxRecDepth 100000 in
theorem D_C_read : mx_decs prog_1_method_19_code T_C_read = true := by decide +kernel
set_option maxRecDepth 100000 in
theorem D_T_scan : mx_decs prog_7_method_2_code T_T_scan = true := by decide +kernel
set_option maxRecDepth 100000 in
theorem D_T_takes : mx_decs prog_7_method_6_code T_T_takes = true := by decide +kernel
set_option maxRecDepth 100000 in
theorem D_T_takesDigit : mx_decs prog_7_method_7_code T_T_takesDigit = true := by decide +kernel
set_option maxRecDepth 100000 in
theorem D_T_isWithinBounds : mx_decs prog_7_method_8_code T_T_isWithinBounds = true := by decide +kernel
set_option maxRecDepth 100000 in
theorem D_T_signBehind : mx_decs prog_7_method_9_code T_T_signBehind = true := by decide +kernel
set_option maxRecDepth 100000 in
theorem D_T_yearOf : mx_decs prog_7_method_3_code T_T_yearOf = true := by decide +kernel
set_option maxRecDepth 100000 in
theorem D_T_ageOf : mx_decs prog_7_method_4_code T_T_ageOf = true := by decide +kernel
set_option maxRecDepth 100000 in
theorem D_T_spreadOf : mx_decs prog_7_method_5_code T_T_spreadOf = true := by decide +kernel
set_option maxRecDepth 100000 in
theorem D_E_tellRow : mx_decs prog_4_method_3_code T_E_tellRow = true := by decide +kernel
set_option maxRecDepth 100000 in
theorem D_E_hasRow : mx_decs prog_4_method_2_code T_E_hasRow = true := by decide +kernel
set_option maxRecDepth 100000 in
theorem D_W_cell : mx_decs method_2_code T_W_cell = true := by decide +kernel
set_option maxRecDepth 100000 in
theorem D_W_curve : mx_decs method_3_code T_W_curve = true := by decide +kernel
set_option maxRecDepth 100000 in
theorem D_C_curve : mx_decs prog_1_method_2_code T_C_curve = true := by decide +kernel
set_option maxRecDepth 100000 in
theorem D_C_needYear : mx_decs prog_1_method_21_code T_C_needYear = true := by decide +kernel
set_option maxRecDepth 100000 in
theorem D_C_needAgeAndSpread : mx_decs prog_1_method_24_code T_C_needAgeAndSpread = true := by decide +kernel
set_option maxRecDepth 100000 in
theorem D_W_edition : mx_decs method_4_code T_W_edition = true := by decide +kernel
set_option maxRecDepth 100000 in
theorem D_C_edition : mx_decs prog_1_method_3_code T_C_edition = true := by decide +kernel
set_option maxRecDepth 100000 in
theorem D_E_copyRowsOf : mx_decs prog_4_method_4_code T_E_copyRowsOf = true := by decide +kernel
set_option maxRecDepth 100000 in
theorem D_W_use : mx_decs method_5_code T_W_use = true := by decide +kernel
set_option maxRecDepth 100000 in
theorem D_C_use : mx_decs prog_1_method_4_code T_C_use = true := by decide +kernel
set_option maxRecDepth 100000 in
theorem D_W_reservoir : mx_decs method_6_code T_W_reservoir = true := by decide +kernel
set_option maxRecDepth 100000 in
theorem D_C_reservoir : mx_decs prog_1_method_5_code T_C_reservoir = true := by decide +kernel
set_option maxRecDepth 100000 in
theorem D_W_date : mx_decs method_7_code T_W_date = true := by decide +kernel
set_option maxRecDepth 100000 in
theorem D_C_date : mx_decs prog_1_method_6_code T_C_date = true := by decide +kernel
set_option maxRecDepth 100000 in
theorem D_C_needRoomForDate : mx_decs prog_1_method_23_code T_C_needRoomForDate = true := by decide +kernel
set_option maxRecDepth 100000 in
theorem D_C_tellMeasured : mx_decs prog_1_method_26_code T_C_tellMeasured = true := by decide +kernel
set_option maxRecDepth 100000 in
theorem D_C_weightBy : mx_decs prog_1_method_28_code T_C_weightBy = true := by decide +kernel
set_option maxRecDepth 100000 in
theorem D_C_countTold : mx_decs prog_1_method_27_code T_C_countTold = true := by decide +kernel
set_option maxRecDepth 100000 in
theorem D_W_weight : mx_decs method_8_code T_W_weight = true := by decide +kernel
set_option maxRecDepth 100000 in
theorem D_C_weight : mx_decs prog_1_method_7_code T_C_weight = true := by decide +kernel
set_option maxRecDepth 100000 in
theorem D_C_needDate : mx_decs prog_1_method_22_code T_C_needDate = true := by decide +kernel
set_option maxRecDepth 100000 in
theorem D_W_total : mx_decs method_9_code T_W_total = true := by decide +kernel
set_option maxRecDepth 100000 in
theorem D_C_total : mx_decs prog_1_method_8_code T_C_total = true := by decide +kernel
set_option maxRecDepth 100000 in
theorem D_D_allWeights : mx_decs prog_3_method_3_code T_D_allWeights = true := by decide +kernel
set_option maxRecDepth 100000 in
theorem D_W_sum : mx_decs method_10_code T_W_sum = true := by decide +kernel
set_option maxRecDepth 100000 in
theorem D_C_sum : mx_decs prog_1_method_9_code T_C_sum = true := by decide +kernel
set_option maxRecDepth 100000 in
theorem D_D_greatestSumWith : mx_decs prog_3_method_4_code T_D_greatestSumWith = true := by decide +kernel
set_option maxRecDepth 100000 in
theorem D_D_becomeSum : mx_decs prog_3_method_5_code T_D_becomeSum = true := by decide +kernel
set_option maxRecDepth 100000 in
theorem D_W_mix : mx_decs method_11_code T_W_mix = true := by decide +kernel
set_option maxRecDepth 100000 in
theorem D_C_mix : mx_decs prog_1_method_10_code T_C_mix = true := by decide +kernel
set_option maxRecDepth 100000 in
theorem D_C_needShare : mx_decs prog_1_method_25_code T_C_needShare = true := by decide +kernel
set_option maxRecDepth 100000 in
theorem D_D_becomeMixture : mx_decs prog_3_method_6_code T_D_becomeMixture = true := by decide +kernel
set_option maxRecDepth 100000 in
theorem D_W_joinRepeats : mx_decs method_12_code T_W_joinRepeats = true := by decide +kernel
set_option maxRecDepth 100000 in
theorem D_C_joinRepeats : mx_decs prog_1_method_11_code T_C_joinRepeats = true := by decide +kernel
set_option maxRecDepth 100000 in
theorem D_D_isMeasured : mx_decs prog_3_method_2_code T_D_isMeasured = true := by decide +kernel
set_option maxRecDepth 100000 in
theorem D_C_rootAtLeastOne : mx_decs prog_1_method_29_code T_C_rootAtLeastOne = true := by decide +kernel
set_option maxRecDepth 100000 in
theorem D_W_least : mx_decs method_13_code T_W_least = true := by decide +kernel
set_option maxRecDepth 100000 in
theorem D_C_least : mx_decs prog_1_method_12_code T_C_least = true := by decide +kernel
set_option maxRecDepth 100000 in
theorem D_L_choose : mx_decs prog_5_method_2_code T_L_choose = true := by decide +kernel
set_option maxRecDepth 100000 in
theorem D_L_heaviestLeft : mx_decs prog_5_method_3_code T_L_heaviestLeft = true := by decide +kernel
set_option maxRecDepth 100000 in
theorem D_L_findSpans : mx_decs prog_5_method_4_code T_L_findSpans = true := by decide +kernel
set_option maxRecDepth 100000 in
theorem D_L_holdsYear : mx_decs prog_5_method_5_code T_L_holdsYear = true := by decide +kernel
set_option maxRecDepth 100000 in
theorem D_W_span : mx_decs method_14_code T_W_span = true := by decide +kernel
set_option maxRecDepth 100000 in
theorem D_C_span : mx_decs prog_1_method_13_code T_C_span = true := by decide +kernel
set_option maxRecDepth 100000 in
theorem D_W_gap : mx_decs method_15_code T_W_gap = true := by decide +kernel
set_option maxRecDepth 100000 in
theorem D_C_gap : mx_decs prog_1_method_14_code T_C_gap = true := by decide +kernel
set_option maxRecDepth 100000 in
theorem D_R_append : mx_decs prog_2_method_2_code T_R_append = true := by decide +kernel
set_option maxRecDepth 100000 in
theorem D_W_slid : mx_decs method_16_code T_W_slid = true := by decide +kernel
set_option maxRecDepth 100000 in
theorem D_C_slid : mx_decs prog_1_method_15_code T_C_slid = true := by decide +kernel
set_option maxRecDepth 100000 in
theorem D_W_unit : mx_decs method_17_code T_W_unit = true := by decide +kernel
set_option maxRecDepth 100000 in
theorem D_C_unit : mx_decs prog_1_method_18_code T_C_unit = true := by decide +kernel
set_option maxRecDepth 100000 in
theorem D_P_holdsSignsAlone : mx_decs prog_6_method_2_code T_P_holdsSignsAlone = true := by decide +kernel
set_option maxRecDepth 100000 in
theorem D_P_signAt : mx_decs prog_6_method_5_code T_P_signAt = true := by decide +kernel
set_option maxRecDepth 100000 in
theorem D_P_signsIn : mx_decs prog_6_method_3_code T_P_signsIn = true := by decide +kernel
set_option maxRecDepth 100000 in
theorem D_P_append : mx_decs prog_6_method_4_code T_P_append = true := by decide +kernel
set_option maxRecDepth 100000 in
theorem D_W_count : mx_decs method_18_code T_W_count = true := by decide +kernel
set_option maxRecDepth 100000 in
theorem D_C_count : mx_decs prog_1_method_20_code T_C_count = true := by decide +kernel
set_option maxRecDepth 100000 in
theorem D_M_init : mx_decs prog_9_method_1_code T_M_init = true := by decide +kernel
set_option maxRecDepth 100000 in
theorem D_M_thrown : mx_decs prog_9_method_2_code T_M_thrown = true := by decide +kernel
set_option maxRecDepth 100000 in
theorem D_M_curve : mx_decs prog_9_method_8_code T_M_curve = true := by decide +kernel
set_option maxRecDepth 100000 in
theorem D_M_isYear : mx_decs prog_9_method_5_code T_M_isYear = true := by decide +kernel
set_option maxRecDepth 100000 in
theorem D_M_within : mx_decs prog_9_method_4_code T_M_within = true := by decide +kernel
set_option maxRecDepth 100000 in
theorem D_M_goes : mx_decs prog_9_method_3_code T_M_goes = true := by decide +kernel
set_option maxRecDepth 100000 in
theorem D_M_put : mx_decs prog_9_method_7_code T_M_put = true := by decide +kernel
set_option maxRecDepth 100000 in
theorem D_M_edition : mx_decs prog_9_method_9_code T_M_edition = true := by decide +kernel
set_option maxRecDepth 100000 in
theorem D_M_use : mx_decs prog_9_method_10_code T_M_use = true := by decide +kernel
set_option maxRecDepth 100000 in
theorem D_M_reservoir : mx_decs prog_9_method_11_code T_M_reservoir = true := by decide +kernel
set_option maxRecDepth 100000 in
theorem D_M_date : mx_decs prog_9_method_14_code T_M_date = true := by decide +kernel
set_option maxRecDepth 100000 in
theorem D_M_measure : mx_decs prog_9_method_13_code T_M_measure = true := by decide +kernel
set_option maxRecDepth 100000 in
theorem D_M_weigh : mx_decs prog_9_method_12_code T_M_weigh = true := by decide +kernel
set_option maxRecDepth 100000 in
theorem D_M_weight : mx_decs prog_9_method_15_code T_M_weight = true := by decide +kernel
set_option maxRecDepth 100000 in
theorem D_M_isDate : mx_decs prog_9_method_6_code T_M_isDate = true := by decide +kernel
set_option maxRecDepth 100000 in
theorem D_M_total : mx_decs prog_9_method_17_code T_M_total = true := by decide +kernel
set_option maxRecDepth 100000 in
theorem D_M_totalOf : mx_decs prog_9_method_16_code T_M_totalOf = true := by decide +kernel
set_option maxRecDepth 100000 in
theorem D_M_sum : mx_decs prog_9_method_18_code T_M_sum = true := by decide +kernel
set_option maxRecDepth 100000 in
theorem D_M_mix : mx_decs prog_9_method_19_code T_M_mix = true := by decide +kernel
set_option maxRecDepth 100000 in
theorem D_M_joinRepeats : mx_decs prog_9_method_20_code T_M_joinRepeats = true := by decide +kernel
set_option maxRecDepth 100000 in
theorem D_M_least : mx_decs prog_9_method_24_code T_M_least = true := by decide +kernel
set_option maxRecDepth 100000 in
theorem D_M_isNeeded : mx_decs prog_9_method_21_code T_M_isNeeded = true := by decide +kernel
set_option maxRecDepth 100000 in
theorem D_M_spans : mx_decs prog_9_method_23_code T_M_spans = true := by decide +kernel
set_option maxRecDepth 100000 in
theorem D_M_begins : mx_decs prog_9_method_22_code T_M_begins = true := by decide +kernel
set_option maxRecDepth 100000 in
theorem D_M_span : mx_decs prog_9_method_25_code T_M_span = true := by decide +kernel
set_option maxRecDepth 100000 in
theorem D_M_gap : mx_decs prog_9_method_26_code T_M_gap = true := by decide +kernel
set_option maxRecDepth 100000 in
theorem D_M_slid : mx_decs prog_9_method_28_code T_M_slid = true := by decide +kernel
set_option maxRecDepth 100000 in
theorem D_M_slidTo : mx_decs prog_9_method_27_code T_M_slidTo = true := by decide +kernel
set_option maxRecDepth 100000 in
theorem D_M_wiggle : mx_decs prog_9_method_29_code T_M_wiggle = true := by decide +kernel
set_option maxRecDepth 100000 in
theorem D_M_clear : mx_decs prog_9_method_30_code T_M_clear = true := by decide +kernel
set_option maxRecDepth 100000 in
theorem D_M_unit : mx_decs prog_9_method_34_code T_M_unit = true := by decide +kernel
set_option maxRecDepth 100000 in
theorem D_M_plain : mx_decs prog_9_method_32_code T_M_plain = true := by decide +kernel
set_option maxRecDepth 100000 in
theorem D_M_signs : mx_decs prog_9_method_31_code T_M_signs = true := by decide +kernel
set_option maxRecDepth 100000 in
theorem D_M_push : mx_decs prog_9_method_33_code T_M_push = true := by decide +kernel
set_option maxRecDepth 100000 in
theorem D_M_read : mx_decs prog_9_method_36_code T_M_read = true := by decide +kernel
set_option maxRecDepth 100000 in
theorem D_M_fault : mx_decs prog_9_method_35_code T_M_fault = true := by decide +kernel
set_option maxRecDepth 100000 in
theorem D_M_count : mx_decs prog_9_method_37_code T_M_count = true := by decide +kernel
