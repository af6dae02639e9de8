set_option maxRecDepth 20000 in
theorem cls_C : mx_cls "CurveSums" F_C 13 ft_C := ⟨by decide +kernel, by decide +kernel, by decide +kernel⟩
set_option maxRecDepth 20000 in
theorem cls_E : mx_cls "CurveSums$Edition" F_E 3 ft_E := ⟨by decide +kernel, by decide +kernel, by decide +kernel⟩
set_option maxRecDepth 20000 in
theorem cls_D : mx_cls "CurveSums$Dating" F_D 3 ft_D := ⟨by decide +kernel, by decide +kernel, by decide +kernel⟩
set_option maxRecDepth 20000 in
theorem cls_L : mx_cls "CurveSums$LeastSet" F_L 4 ft_L := ⟨by decide +kernel, by decide +kernel, by decide +kernel⟩
set_option maxRecDepth 20000 in
theorem cls_R : mx_cls "CurveSums$DateRow" F_R 3 ft_R := ⟨by decide +kernel, by decide +kernel, by decide +kernel⟩
set_option maxRecDepth 20000 in
theorem cls_P : mx_cls "CurveSums$Pad" F_P 2 ft_P := ⟨by decide +kernel, by decide +kernel, by decide +kernel⟩
set_option maxRecDepth 20000 in
theorem cls_T : mx_cls "CurveSums$TextReader" F_T 4 ft_T := ⟨by decide +kernel, by decide +kernel, by decide +kernel⟩
set_option maxRecDepth 20000 in
theorem cls_M : mx_cls "CurveSumsModel" F_M 23 ft_M := ⟨by decide +kernel, by decide +kernel, by decide +kernel⟩
theorem in_C_init : mx_in Y_C_init := ⟨by decide, ⟨by decide, by decide⟩, w_1, Or.inl ⟨w_21, rfl⟩⟩
theorem np_C_init : (parseMethodDescriptor (Y_C_init).1.desc).map (fun sig => sig.parameters.length) = some 2 := by decide +kernel
theorem in_E_init : mx_in Y_E_init := ⟨by decide, ⟨by decide, by decide⟩, w_3, Or.inl ⟨w_37, rfl⟩⟩
theorem np_E_init : (parseMethodDescriptor (Y_E_init).1.desc).map (fun sig => sig.parameters.length) = some 1 := by decide +kernel
theorem in_D_init : mx_in Y_D_init := ⟨by decide, ⟨by decide, by decide⟩, w_4, Or.inl ⟨w_58, rfl⟩⟩
theorem np_D_init : (parseMethodDescriptor (Y_D_init).1.desc).map (fun sig => sig.parameters.length) = some 1 := by decide +kernel
theorem in_L_init : mx_in Y_L_init := ⟨by decide, ⟨by decide, by decide⟩, w_5, Or.inl ⟨w_78, rfl⟩⟩
theorem np_L_init : (parseMethodDescriptor (Y_L_init).1.desc).map (fun sig => sig.parameters.length) = some 1 := by decide +kernel
theorem in_R_init : mx_in Y_R_init := ⟨by decide, ⟨by decide, by decide⟩, w_6, Or.inl ⟨w_101, rfl⟩⟩
theorem np_R_init : (parseMethodDescriptor (Y_R_init).1.desc).map (fun sig => sig.parameters.length) = some 0 := by decide +kernel
theorem in_P_init : mx_in Y_P_init := ⟨by decide, ⟨by decide, by decide⟩, w_7, Or.inl ⟨w_118, rfl⟩⟩
theorem np_P_init : (parseMethodDescriptor (Y_P_init).1.desc).map (fun sig => sig.parameters.length) = some 0 := by decide +kernel
theorem in_T_init : mx_in Y_T_init := ⟨by decide, ⟨by decide, by decide⟩, w_8, Or.inl ⟨w_134, rfl⟩⟩
theorem np_T_init : (parseMethodDescriptor (Y_T_init).1.desc).map (fun sig => sig.parameters.length) = some 1 := by decide +kernel
theorem in_C_wiggle : mx_in Y_C_wiggle := ⟨by decide, ⟨by decide, by decide⟩, w_1, Or.inl ⟨w_192, rfl⟩⟩
theorem np_C_wiggle : (parseMethodDescriptor (Y_C_wiggle).1.desc).map (fun sig => sig.parameters.length) = some 0 := by decide +kernel
theorem s_C_wiggle : Cond.selects (Y_C_wiggle).1.cls (Y_C_wiggle).1 (Y_C_wiggle).1 ∈ lw_tbl := w_191
theorem in_R_sumAt : mx_in Y_R_sumAt := ⟨by decide, ⟨by decide, by decide⟩, w_6, Or.inl ⟨w_196, rfl⟩⟩
theorem np_R_sumAt : (parseMethodDescriptor (Y_R_sumAt).1.desc).map (fun sig => sig.parameters.length) = some 2 := by decide +kernel
theorem s_R_sumAt : Cond.selects (Y_R_sumAt).1.cls (Y_R_sumAt).1 (Y_R_sumAt).1 ∈ lw_tbl := w_195
theorem in_C_clear : mx_in Y_C_clear := ⟨by decide, ⟨by decide, by decide⟩, w_1, Or.inl ⟨w_200, rfl⟩⟩
theorem np_C_clear : (parseMethodDescriptor (Y_C_clear).1.desc).map (fun sig => sig.parameters.length) = some 0 := by decide +kernel
theorem s_C_clear : Cond.selects (Y_C_clear).1.cls (Y_C_clear).1 (Y_C_clear).1 ∈ lw_tbl := w_199
theorem in_C_read : mx_in Y_C_read := ⟨by decide, ⟨by decide, by decide⟩, w_1, Or.inl ⟨w_204, rfl⟩⟩
theorem np_C_read : (parseMethodDescriptor (Y_C_read).1.desc).map (fun sig => sig.parameters.length) = some 0 := by decide +kernel
theorem s_C_read : Cond.selects (Y_C_read).1.cls (Y_C_read).1 (Y_C_read).1 ∈ lw_tbl := w_203
theorem in_T_scan : mx_in Y_T_scan := ⟨by decide, ⟨by decide, by decide⟩, w_8, Or.inl ⟨w_208, rfl⟩⟩
theorem np_T_scan : (parseMethodDescriptor (Y_T_scan).1.desc).map (fun sig => sig.parameters.length) = some 1 := by decide +kernel
theorem s_T_scan : Cond.selects (Y_T_scan).1.cls (Y_T_scan).1 (Y_T_scan).1 ∈ lw_tbl := w_207
theorem in_T_takes : mx_in Y_T_takes := ⟨by decide, ⟨by decide, by decide⟩, w_8, Or.inl ⟨w_212, rfl⟩⟩
theorem np_T_takes : (parseMethodDescriptor (Y_T_takes).1.desc).map (fun sig => sig.parameters.length) = some 1 := by decide +kernel
theorem s_T_takes : Cond.selects (Y_T_takes).1.cls (Y_T_takes).1 (Y_T_takes).1 ∈ lw_tbl := List.mem_append_left _ (by decide +kernel)
theorem in_T_takesDigit : mx_in Y_T_takesDigit := ⟨by decide, ⟨by decide, by decide⟩, w_8, Or.inl ⟨w_216, rfl⟩⟩
theorem np_T_takesDigit : (parseMethodDescriptor (Y_T_takesDigit).1.desc).map (fun sig => sig.parameters.length) = some 1 := by decide +kernel
theorem s_T_takesDigit : Cond.selects (Y_T_takesDigit).1.cls (Y_T_takesDigit).1 (Y_T_takesDigit).1 ∈ lw_tbl := List.mem_append_left _ (by decide +kernel)
theorem in_T_isWithinBounds : mx_in Y_T_isWithinBounds := ⟨by decide, ⟨by decide, by decide⟩, w_8, Or.inl ⟨w_220, rfl⟩⟩
theorem np_T_isWithinBounds : (parseMethodDescriptor (Y_T_isWithinBounds).1.desc).map (fun sig => sig.parameters.length) = some 2 := by decide +kernel
theorem s_T_isWithinBounds : Cond.selects (Y_T_isWithinBounds).1.cls (Y_T_isWithinBounds).1 (Y_T_isWithinBounds).1 ∈ lw_tbl := List.mem_append_left _ (by decide +kernel)
theorem in_T_signBehind : mx_in Y_T_signBehind := ⟨by decide, ⟨by decide, by decide⟩, w_8, Or.inl ⟨w_223, rfl⟩⟩
theorem np_T_signBehind : (parseMethodDescriptor (Y_T_signBehind).1.desc).map (fun sig => sig.parameters.length) = some 1 := by decide +kernel
theorem in_T_yearOf : mx_in Y_T_yearOf := ⟨by decide, ⟨by decide, by decide⟩, w_8, Or.inl ⟨w_227, rfl⟩⟩
theorem np_T_yearOf : (parseMethodDescriptor (Y_T_yearOf).1.desc).map (fun sig => sig.parameters.length) = some 1 := by decide +kernel
theorem s_T_yearOf : Cond.selects (Y_T_yearOf).1.cls (Y_T_yearOf).1 (Y_T_yearOf).1 ∈ lw_tbl := w_226
theorem in_T_ageOf : mx_in Y_T_ageOf := ⟨by decide, ⟨by decide, by decide⟩, w_8, Or.inl ⟨w_231, rfl⟩⟩
theorem np_T_ageOf : (parseMethodDescriptor (Y_T_ageOf).1.desc).map (fun sig => sig.parameters.length) = some 1 := by decide +kernel
theorem s_T_ageOf : Cond.selects (Y_T_ageOf).1.cls (Y_T_ageOf).1 (Y_T_ageOf).1 ∈ lw_tbl := w_230
theorem in_T_spreadOf : mx_in Y_T_spreadOf := ⟨by decide, ⟨by decide, by decide⟩, w_8, Or.inl ⟨w_235, rfl⟩⟩
theorem np_T_spreadOf : (parseMethodDescriptor (Y_T_spreadOf).1.desc).map (fun sig => sig.parameters.length) = some 1 := by decide +kernel
theorem s_T_spreadOf : Cond.selects (Y_T_spreadOf).1.cls (Y_T_spreadOf).1 (Y_T_spreadOf).1 ∈ lw_tbl := w_234
theorem in_E_tellRow : mx_in Y_E_tellRow := ⟨by decide, ⟨by decide, by decide⟩, w_3, Or.inl ⟨w_239, rfl⟩⟩
theorem np_E_tellRow : (parseMethodDescriptor (Y_E_tellRow).1.desc).map (fun sig => sig.parameters.length) = some 3 := by decide +kernel
theorem s_E_tellRow : Cond.selects (Y_E_tellRow).1.cls (Y_E_tellRow).1 (Y_E_tellRow).1 ∈ lw_tbl := w_238
theorem in_E_hasRow : mx_in Y_E_hasRow := ⟨by decide, ⟨by decide, by decide⟩, w_3, Or.inl ⟨w_243, rfl⟩⟩
theorem np_E_hasRow : (parseMethodDescriptor (Y_E_hasRow).1.desc).map (fun sig => sig.parameters.length) = some 1 := by decide +kernel
theorem s_E_hasRow : Cond.selects (Y_E_hasRow).1.cls (Y_E_hasRow).1 (Y_E_hasRow).1 ∈ lw_tbl := w_242
theorem in_W_cell : mx_in Y_W_cell := ⟨by decide, ⟨by decide, by decide⟩, w_0, Or.inl ⟨w_246, rfl⟩⟩
theorem np_W_cell : (parseMethodDescriptor (Y_W_cell).1.desc).map (fun sig => sig.parameters.length) = some 2 := by decide +kernel
theorem in_W_curve : mx_in Y_W_curve := ⟨by decide, ⟨by decide, by decide⟩, w_0, Or.inr w_249⟩
theorem np_W_curve : (parseMethodDescriptor (Y_W_curve).1.desc).map (fun sig => sig.parameters.length) = some 5 := by decide +kernel
theorem in_C_curve : mx_in Y_C_curve := ⟨by decide, ⟨by decide, by decide⟩, w_1, Or.inl ⟨w_255, rfl⟩⟩
theorem np_C_curve : (parseMethodDescriptor (Y_C_curve).1.desc).map (fun sig => sig.parameters.length) = some 3 := by decide +kernel
theorem s_C_curve : Cond.selects (Y_C_curve).1.cls (Y_C_curve).1 (Y_C_curve).1 ∈ lw_tbl := w_254
theorem in_C_needYear : mx_in Y_C_needYear := ⟨by decide, ⟨by decide, by decide⟩, w_1, Or.inl ⟨w_259, rfl⟩⟩
theorem np_C_needYear : (parseMethodDescriptor (Y_C_needYear).1.desc).map (fun sig => sig.parameters.length) = some 1 := by decide +kernel
theorem s_C_needYear : Cond.selects (Y_C_needYear).1.cls (Y_C_needYear).1 (Y_C_needYear).1 ∈ lw_tbl := List.mem_append_left _ (by decide +kernel)
theorem in_C_needAgeAndSpread : mx_in Y_C_needAgeAndSpread := ⟨by decide, ⟨by decide, by decide⟩, w_1, Or.inl ⟨w_330, rfl⟩⟩
theorem np_C_needAgeAndSpread : (parseMethodDescriptor (Y_C_needAgeAndSpread).1.desc).map (fun sig => sig.parameters.length) = some 2 := by decide +kernel
theorem in_W_edition : mx_in Y_W_edition := ⟨by decide, ⟨by decide, by decide⟩, w_0, Or.inr w_350⟩
theorem np_W_edition : (parseMethodDescriptor (Y_W_edition).1.desc).map (fun sig => sig.parameters.length) = some 2 := by decide +kernel
theorem in_C_edition : mx_in Y_C_edition := ⟨by decide, ⟨by decide, by decide⟩, w_1, Or.inl ⟨w_355, rfl⟩⟩
theorem np_C_edition : (parseMethodDescriptor (Y_C_edition).1.desc).map (fun sig => sig.parameters.length) = some 0 := by decide +kernel
theorem s_C_edition : Cond.selects (Y_C_edition).1.cls (Y_C_edition).1 (Y_C_edition).1 ∈ lw_tbl := w_354
theorem in_E_copyRowsOf : mx_in Y_E_copyRowsOf := ⟨by decide, ⟨by decide, by decide⟩, w_3, Or.inl ⟨w_375, rfl⟩⟩
theorem np_E_copyRowsOf : (parseMethodDescriptor (Y_E_copyRowsOf).1.desc).map (fun sig => sig.parameters.length) = some 1 := by decide +kernel
theorem s_E_copyRowsOf : Cond.selects (Y_E_copyRowsOf).1.cls (Y_E_copyRowsOf).1 (Y_E_copyRowsOf).1 ∈ lw_tbl := w_374
theorem in_W_use : mx_in Y_W_use := ⟨by decide, ⟨by decide, by decide⟩, w_0, Or.inr w_381⟩
theorem np_W_use : (parseMethodDescriptor (Y_W_use).1.desc).map (fun sig => sig.parameters.length) = some 3 := by decide +kernel
theorem in_C_use : mx_in Y_C_use := ⟨by decide, ⟨by decide, by decide⟩, w_1, Or.inl ⟨w_385, rfl⟩⟩
theorem np_C_use : (parseMethodDescriptor (Y_C_use).1.desc).map (fun sig => sig.parameters.length) = some 1 := by decide +kernel
theorem s_C_use : Cond.selects (Y_C_use).1.cls (Y_C_use).1 (Y_C_use).1 ∈ lw_tbl := w_384
theorem in_W_reservoir : mx_in Y_W_reservoir := ⟨by decide, ⟨by decide, by decide⟩, w_0, Or.inr w_389⟩
theorem np_W_reservoir : (parseMethodDescriptor (Y_W_reservoir).1.desc).map (fun sig => sig.parameters.length) = some 3 := by decide +kernel
theorem in_C_reservoir : mx_in Y_C_reservoir := ⟨by decide, ⟨by decide, by decide⟩, w_1, Or.inl ⟨w_393, rfl⟩⟩
theorem np_C_reservoir : (parseMethodDescriptor (Y_C_reservoir).1.desc).map (fun sig => sig.parameters.length) = some 2 := by decide +kernel
theorem s_C_reservoir : Cond.selects (Y_C_reservoir).1.cls (Y_C_reservoir).1 (Y_C_reservoir).1 ∈ lw_tbl := w_392
theorem in_W_date : mx_in Y_W_date := ⟨by decide, ⟨by decide, by decide⟩, w_0, Or.inr w_398⟩
theorem np_W_date : (parseMethodDescriptor (Y_W_date).1.desc).map (fun sig => sig.parameters.length) = some 4 := by decide +kernel
theorem in_C_date : mx_in Y_C_date := ⟨by decide, ⟨by decide, by decide⟩, w_1, Or.inl ⟨w_402, rfl⟩⟩
theorem np_C_date : (parseMethodDescriptor (Y_C_date).1.desc).map (fun sig => sig.parameters.length) = some 2 := by decide +kernel
theorem s_C_date : Cond.selects (Y_C_date).1.cls (Y_C_date).1 (Y_C_date).1 ∈ lw_tbl := w_401
theorem in_C_needRoomForDate : mx_in Y_C_needRoomForDate := ⟨by decide, ⟨by decide, by decide⟩, w_1, Or.inl ⟨w_406, rfl⟩⟩
theorem np_C_needRoomForDate : (parseMethodDescriptor (Y_C_needRoomForDate).1.desc).map (fun sig => sig.parameters.length) = some 0 := by decide +kernel
theorem s_C_needRoomForDate : Cond.selects (Y_C_needRoomForDate).1.cls (Y_C_needRoomForDate).1 (Y_C_needRoomForDate).1 ∈ lw_tbl := List.mem_append_left _ (by decide +kernel)
theorem in_C_tellMeasured : mx_in Y_C_tellMeasured := ⟨by decide, ⟨by decide, by decide⟩, w_1, Or.inl ⟨w_411, rfl⟩⟩
theorem np_C_tellMeasured : (parseMethodDescriptor (Y_C_tellMeasured).1.desc).map (fun sig => sig.parameters.length) = some 2 := by decide +kernel
theorem s_C_tellMeasured : Cond.selects (Y_C_tellMeasured).1.cls (Y_C_tellMeasured).1 (Y_C_tellMeasured).1 ∈ lw_tbl := List.mem_append_left _ (by decide +kernel)
theorem in_C_weightBy : mx_in Y_C_weightBy := ⟨by decide, ⟨by decide, by decide⟩, w_1, Or.inl ⟨w_415, rfl⟩⟩
theorem np_C_weightBy : (parseMethodDescriptor (Y_C_weightBy).1.desc).map (fun sig => sig.parameters.length) = some 4 := by decide +kernel
theorem s_C_weightBy : Cond.selects (Y_C_weightBy).1.cls (Y_C_weightBy).1 (Y_C_weightBy).1 ∈ lw_tbl := List.mem_append_left _ (by decide +kernel)
theorem in_C_countTold : mx_in Y_C_countTold := ⟨by decide, ⟨by decide, by decide⟩, w_1, Or.inl ⟨w_420, rfl⟩⟩
theorem np_C_countTold : (parseMethodDescriptor (Y_C_countTold).1.desc).map (fun sig => sig.parameters.length) = some 0 := by decide +kernel
theorem s_C_countTold : Cond.selects (Y_C_countTold).1.cls (Y_C_countTold).1 (Y_C_countTold).1 ∈ lw_tbl := List.mem_append_left _ (by decide +kernel)
theorem in_W_weight : mx_in Y_W_weight := ⟨by decide, ⟨by decide, by decide⟩, w_0, Or.inr w_423⟩
theorem np_W_weight : (parseMethodDescriptor (Y_W_weight).1.desc).map (fun sig => sig.parameters.length) = some 4 := by decide +kernel
theorem in_C_weight : mx_in Y_C_weight := ⟨by decide, ⟨by decide, by decide⟩, w_1, Or.inl ⟨w_427, rfl⟩⟩
theorem np_C_weight : (parseMethodDescriptor (Y_C_weight).1.desc).map (fun sig => sig.parameters.length) = some 2 := by decide +kernel
theorem s_C_weight : Cond.selects (Y_C_weight).1.cls (Y_C_weight).1 (Y_C_weight).1 ∈ lw_tbl := w_426
theorem in_C_needDate : mx_in Y_C_needDate := ⟨by decide, ⟨by decide, by decide⟩, w_1, Or.inl ⟨w_431, rfl⟩⟩
theorem np_C_needDate : (parseMethodDescriptor (Y_C_needDate).1.desc).map (fun sig => sig.parameters.length) = some 1 := by decide +kernel
theorem s_C_needDate : Cond.selects (Y_C_needDate).1.cls (Y_C_needDate).1 (Y_C_needDate).1 ∈ lw_tbl := List.mem_append_left _ (by decide +kernel)
theorem in_W_total : mx_in Y_W_total := ⟨by decide, ⟨by decide, by decide⟩, w_0, Or.inr w_435⟩
theorem np_W_total : (parseMethodDescriptor (Y_W_total).1.desc).map (fun sig => sig.parameters.length) = some 3 := by decide +kernel
theorem in_C_total : mx_in Y_C_total := ⟨by decide, ⟨by decide, by decide⟩, w_1, Or.inl ⟨w_439, rfl⟩⟩
theorem np_C_total : (parseMethodDescriptor (Y_C_total).1.desc).map (fun sig => sig.parameters.length) = some 1 := by decide +kernel
theorem s_C_total : Cond.selects (Y_C_total).1.cls (Y_C_total).1 (Y_C_total).1 ∈ lw_tbl := w_438
theorem in_D_allWeights : mx_in Y_D_allWeights := ⟨by decide, ⟨by decide, by decide⟩, w_4, Or.inl ⟨w_443, rfl⟩⟩
theorem np_D_allWeights : (parseMethodDescriptor (Y_D_allWeights).1.desc).map (fun sig => sig.parameters.length) = some 0 := by decide +kernel
theorem s_D_allWeights : Cond.selects (Y_D_allWeights).1.cls (Y_D_allWeights).1 (Y_D_allWeights).1 ∈ lw_tbl := w_442
theorem in_W_sum : mx_in Y_W_sum := ⟨by decide, ⟨by decide, by decide⟩, w_0, Or.inr w_446⟩
theorem np_W_sum : (parseMethodDescriptor (Y_W_sum).1.desc).map (fun sig => sig.parameters.length) = some 4 := by decide +kernel
theorem in_C_sum : mx_in Y_C_sum := ⟨by decide, ⟨by decide, by decide⟩, w_1, Or.inl ⟨w_450, rfl⟩⟩
theorem np_C_sum : (parseMethodDescriptor (Y_C_sum).1.desc).map (fun sig => sig.parameters.length) = some 2 := by decide +kernel
theorem s_C_sum : Cond.selects (Y_C_sum).1.cls (Y_C_sum).1 (Y_C_sum).1 ∈ lw_tbl := w_449
theorem in_D_greatestSumWith : mx_in Y_D_greatestSumWith := ⟨by decide, ⟨by decide, by decide⟩, w_4, Or.inl ⟨w_454, rfl⟩⟩
theorem np_D_greatestSumWith : (parseMethodDescriptor (Y_D_greatestSumWith).1.desc).map (fun sig => sig.parameters.length) = some 1 := by decide +kernel
theorem s_D_greatestSumWith : Cond.selects (Y_D_greatestSumWith).1.cls (Y_D_greatestSumWith).1 (Y_D_greatestSumWith).1 ∈ lw_tbl := w_453
theorem in_D_becomeSum : mx_in Y_D_becomeSum := ⟨by decide, ⟨by decide, by decide⟩, w_4, Or.inl ⟨w_460, rfl⟩⟩
theorem np_D_becomeSum : (parseMethodDescriptor (Y_D_becomeSum).1.desc).map (fun sig => sig.parameters.length) = some 2 := by decide +kernel
theorem s_D_becomeSum : Cond.selects (Y_D_becomeSum).1.cls (Y_D_becomeSum).1 (Y_D_becomeSum).1 ∈ lw_tbl := w_459
theorem in_W_mix : mx_in Y_W_mix := ⟨by decide, ⟨by decide, by decide⟩, w_0, Or.inr w_463⟩
theorem np_W_mix : (parseMethodDescriptor (Y_W_mix).1.desc).map (fun sig => sig.parameters.length) = some 6 := by decide +kernel
theorem in_C_mix : mx_in Y_C_mix := ⟨by decide, ⟨by decide, by decide⟩, w_1, Or.inl ⟨w_467, rfl⟩⟩
theorem np_C_mix : (parseMethodDescriptor (Y_C_mix).1.desc).map (fun sig => sig.parameters.length) = some 4 := by decide +kernel
theorem s_C_mix : Cond.selects (Y_C_mix).1.cls (Y_C_mix).1 (Y_C_mix).1 ∈ lw_tbl := w_466
theorem in_C_needShare : mx_in Y_C_needShare := ⟨by decide, ⟨by decide, by decide⟩, w_1, Or.inl ⟨w_471, rfl⟩⟩
theorem np_C_needShare : (parseMethodDescriptor (Y_C_needShare).1.desc).map (fun sig => sig.parameters.length) = some 3 := by decide +kernel
theorem in_D_becomeMixture : mx_in Y_D_becomeMixture := ⟨by decide, ⟨by decide, by decide⟩, w_4, Or.inl ⟨w_476, rfl⟩⟩
theorem np_D_becomeMixture : (parseMethodDescriptor (Y_D_becomeMixture).1.desc).map (fun sig => sig.parameters.length) = some 4 := by decide +kernel
theorem s_D_becomeMixture : Cond.selects (Y_D_becomeMixture).1.cls (Y_D_becomeMixture).1 (Y_D_becomeMixture).1 ∈ lw_tbl := w_475
theorem in_W_joinRepeats : mx_in Y_W_joinRepeats := ⟨by decide, ⟨by decide, by decide⟩, w_0, Or.inr w_479⟩
theorem np_W_joinRepeats : (parseMethodDescriptor (Y_W_joinRepeats).1.desc).map (fun sig => sig.parameters.length) = some 4 := by decide +kernel
theorem in_C_joinRepeats : mx_in Y_C_joinRepeats := ⟨by decide, ⟨by decide, by decide⟩, w_1, Or.inl ⟨w_483, rfl⟩⟩
theorem np_C_joinRepeats : (parseMethodDescriptor (Y_C_joinRepeats).1.desc).map (fun sig => sig.parameters.length) = some 2 := by decide +kernel
theorem s_C_joinRepeats : Cond.selects (Y_C_joinRepeats).1.cls (Y_C_joinRepeats).1 (Y_C_joinRepeats).1 ∈ lw_tbl := w_482
theorem in_D_isMeasured : mx_in Y_D_isMeasured := ⟨by decide, ⟨by decide, by decide⟩, w_4, Or.inl ⟨w_487, rfl⟩⟩
theorem np_D_isMeasured : (parseMethodDescriptor (Y_D_isMeasured).1.desc).map (fun sig => sig.parameters.length) = some 0 := by decide +kernel
theorem s_D_isMeasured : Cond.selects (Y_D_isMeasured).1.cls (Y_D_isMeasured).1 (Y_D_isMeasured).1 ∈ lw_tbl := w_486
theorem in_C_rootAtLeastOne : mx_in Y_C_rootAtLeastOne := ⟨by decide, ⟨by decide, by decide⟩, w_1, Or.inl ⟨w_490, rfl⟩⟩
theorem np_C_rootAtLeastOne : (parseMethodDescriptor (Y_C_rootAtLeastOne).1.desc).map (fun sig => sig.parameters.length) = some 1 := by decide +kernel
theorem in_W_least : mx_in Y_W_least := ⟨by decide, ⟨by decide, by decide⟩, w_0, Or.inr w_493⟩
theorem np_W_least : (parseMethodDescriptor (Y_W_least).1.desc).map (fun sig => sig.parameters.length) = some 5 := by decide +kernel
theorem in_C_least : mx_in Y_C_least := ⟨by decide, ⟨by decide, by decide⟩, w_1, Or.inl ⟨w_497, rfl⟩⟩
theorem np_C_least : (parseMethodDescriptor (Y_C_least).1.desc).map (fun sig => sig.parameters.length) = some 3 := by decide +kernel
theorem s_C_least : Cond.selects (Y_C_least).1.cls (Y_C_least).1 (Y_C_least).1 ∈ lw_tbl := w_496
theorem in_L_choose : mx_in Y_L_choose := ⟨by decide, ⟨by decide, by decide⟩, w_5, Or.inl ⟨w_501, rfl⟩⟩
theorem np_L_choose : (parseMethodDescriptor (Y_L_choose).1.desc).map (fun sig => sig.parameters.length) = some 3 := by decide +kernel
theorem s_L_choose : Cond.selects (Y_L_choose).1.cls (Y_L_choose).1 (Y_L_choose).1 ∈ lw_tbl := w_500
theorem in_L_heaviestLeft : mx_in Y_L_heaviestLeft := ⟨by decide, ⟨by decide, by decide⟩, w_5, Or.inl ⟨w_506, rfl⟩⟩
theorem np_L_heaviestLeft : (parseMethodDescriptor (Y_L_heaviestLeft).1.desc).map (fun sig => sig.parameters.length) = some 1 := by decide +kernel
theorem s_L_heaviestLeft : Cond.selects (Y_L_heaviestLeft).1.cls (Y_L_heaviestLeft).1 (Y_L_heaviestLeft).1 ∈ lw_tbl := List.mem_append_left _ (by decide +kernel)
theorem in_L_findSpans : mx_in Y_L_findSpans := ⟨by decide, ⟨by decide, by decide⟩, w_5, Or.inl ⟨w_510, rfl⟩⟩
theorem np_L_findSpans : (parseMethodDescriptor (Y_L_findSpans).1.desc).map (fun sig => sig.parameters.length) = some 0 := by decide +kernel
theorem s_L_findSpans : Cond.selects (Y_L_findSpans).1.cls (Y_L_findSpans).1 (Y_L_findSpans).1 ∈ lw_tbl := List.mem_append_left _ (by decide +kernel)
theorem in_L_holdsYear : mx_in Y_L_holdsYear := ⟨by decide, ⟨by decide, by decide⟩, w_5, Or.inl ⟨w_514, rfl⟩⟩
theorem np_L_holdsYear : (parseMethodDescriptor (Y_L_holdsYear).1.desc).map (fun sig => sig.parameters.length) = some 1 := by decide +kernel
theorem s_L_holdsYear : Cond.selects (Y_L_holdsYear).1.cls (Y_L_holdsYear).1 (Y_L_holdsYear).1 ∈ lw_tbl := List.mem_append_left _ (by decide +kernel)
theorem in_W_span : mx_in Y_W_span := ⟨by decide, ⟨by decide, by decide⟩, w_0, Or.inr w_517⟩
theorem np_W_span : (parseMethodDescriptor (Y_W_span).1.desc).map (fun sig => sig.parameters.length) = some 4 := by decide +kernel
theorem in_C_span : mx_in Y_C_span := ⟨by decide, ⟨by decide, by decide⟩, w_1, Or.inl ⟨w_521, rfl⟩⟩
theorem np_C_span : (parseMethodDescriptor (Y_C_span).1.desc).map (fun sig => sig.parameters.length) = some 2 := by decide +kernel
theorem s_C_span : Cond.selects (Y_C_span).1.cls (Y_C_span).1 (Y_C_span).1 ∈ lw_tbl := w_520
theorem in_W_gap : mx_in Y_W_gap := ⟨by decide, ⟨by decide, by decide⟩, w_0, Or.inr w_526⟩
theorem np_W_gap : (parseMethodDescriptor (Y_W_gap).1.desc).map (fun sig => sig.parameters.length) = some 4 := by decide +kernel
theorem in_C_gap : mx_in Y_C_gap := ⟨by decide, ⟨by decide, by decide⟩, w_1, Or.inl ⟨w_530, rfl⟩⟩
theorem np_C_gap : (parseMethodDescriptor (Y_C_gap).1.desc).map (fun sig => sig.parameters.length) = some 2 := by decide +kernel
theorem s_C_gap : Cond.selects (Y_C_gap).1.cls (Y_C_gap).1 (Y_C_gap).1 ∈ lw_tbl := w_529
theorem in_R_append : mx_in Y_R_append := ⟨by decide, ⟨by decide, by decide⟩, w_6, Or.inl ⟨w_536, rfl⟩⟩
theorem np_R_append : (parseMethodDescriptor (Y_R_append).1.desc).map (fun sig => sig.parameters.length) = some 2 := by decide +kernel
theorem s_R_append : Cond.selects (Y_R_append).1.cls (Y_R_append).1 (Y_R_append).1 ∈ lw_tbl := w_535
theorem in_W_slid : mx_in Y_W_slid := ⟨by decide, ⟨by decide, by decide⟩, w_0, Or.inr w_539⟩
theorem np_W_slid : (parseMethodDescriptor (Y_W_slid).1.desc).map (fun sig => sig.parameters.length) = some 3 := by decide +kernel
theorem in_C_slid : mx_in Y_C_slid := ⟨by decide, ⟨by decide, by decide⟩, w_1, Or.inl ⟨w_543, rfl⟩⟩
theorem np_C_slid : (parseMethodDescriptor (Y_C_slid).1.desc).map (fun sig => sig.parameters.length) = some 1 := by decide +kernel
theorem s_C_slid : Cond.selects (Y_C_slid).1.cls (Y_C_slid).1 (Y_C_slid).1 ∈ lw_tbl := w_542
theorem in_W_unit : mx_in Y_W_unit := ⟨by decide, ⟨by decide, by decide⟩, w_0, Or.inr w_546⟩
theorem np_W_unit : (parseMethodDescriptor (Y_W_unit).1.desc).map (fun sig => sig.parameters.length) = some 4 := by decide +kernel
theorem in_C_unit : mx_in Y_C_unit := ⟨by decide, ⟨by decide, by decide⟩, w_1, Or.inl ⟨w_550, rfl⟩⟩
theorem np_C_unit : (parseMethodDescriptor (Y_C_unit).1.desc).map (fun sig => sig.parameters.length) = some 2 := by decide +kernel
theorem s_C_unit : Cond.selects (Y_C_unit).1.cls (Y_C_unit).1 (Y_C_unit).1 ∈ lw_tbl := w_549
theorem in_P_holdsSignsAlone : mx_in Y_P_holdsSignsAlone := ⟨by decide, ⟨by decide, by decide⟩, w_7, Or.inl ⟨w_553, rfl⟩⟩
theorem np_P_holdsSignsAlone : (parseMethodDescriptor (Y_P_holdsSignsAlone).1.desc).map (fun sig => sig.parameters.length) = some 1 := by decide +kernel
theorem in_P_signAt : mx_in Y_P_signAt := ⟨by decide, ⟨by decide, by decide⟩, w_7, Or.inl ⟨w_556, rfl⟩⟩
theorem np_P_signAt : (parseMethodDescriptor (Y_P_signAt).1.desc).map (fun sig => sig.parameters.length) = some 2 := by decide +kernel
theorem in_P_signsIn : mx_in Y_P_signsIn := ⟨by decide, ⟨by decide, by decide⟩, w_7, Or.inl ⟨w_560, rfl⟩⟩
theorem np_P_signsIn : (parseMethodDescriptor (Y_P_signsIn).1.desc).map (fun sig => sig.parameters.length) = some 1 := by decide +kernel
theorem in_P_append : mx_in Y_P_append := ⟨by decide, ⟨by decide, by decide⟩, w_7, Or.inl ⟨w_565, rfl⟩⟩
theorem np_P_append : (parseMethodDescriptor (Y_P_append).1.desc).map (fun sig => sig.parameters.length) = some 1 := by decide +kernel
theorem s_P_append : Cond.selects (Y_P_append).1.cls (Y_P_append).1 (Y_P_append).1 ∈ lw_tbl := w_564
theorem in_W_count : mx_in Y_W_count := ⟨by decide, ⟨by decide, by decide⟩, w_0, Or.inr w_568⟩
theorem np_W_count : (parseMethodDescriptor (Y_W_count).1.desc).map (fun sig => sig.parameters.length) = some 3 := by decide +kernel
theorem in_C_count : mx_in Y_C_count := ⟨by decide, ⟨by decide, by decide⟩, w_1, Or.inl ⟨w_572, rfl⟩⟩
theorem np_C_count : (parseMethodDescriptor (Y_C_count).1.desc).map (fun sig => sig.parameters.length) = some 1 := by decide +kernel
theorem s_C_count : Cond.selects (Y_C_count).1.cls (Y_C_count).1 (Y_C_count).1 ∈ lw_tbl := w_571
theorem in_M_init : mx_in Y_M_init := ⟨by decide, ⟨by decide, by decide⟩, w_9, Or.inl ⟨w_578, rfl⟩⟩
theorem np_M_init : (parseMethodDescriptor (Y_M_init).1.desc).map (fun sig => sig.parameters.length) = some 2 := by decide +kernel
theorem in_M_thrown : mx_in Y_M_thrown := ⟨by decide, ⟨by decide, by decide⟩, w_9, Or.inl ⟨w_654, rfl⟩⟩
theorem np_M_thrown : (parseMethodDescriptor (Y_M_thrown).1.desc).map (fun sig => sig.parameters.length) = some 0 := by decide +kernel
theorem s_M_thrown : Cond.selects (Y_M_thrown).1.cls (Y_M_thrown).1 (Y_M_thrown).1 ∈ lw_tbl := w_653
theorem in_M_curve : mx_in Y_M_curve := ⟨by decide, ⟨by decide, by decide⟩, w_9, Or.inl ⟨w_658, rfl⟩⟩
theorem np_M_curve : (parseMethodDescriptor (Y_M_curve).1.desc).map (fun sig => sig.parameters.length) = some 3 := by decide +kernel
theorem s_M_curve : Cond.selects (Y_M_curve).1.cls (Y_M_curve).1 (Y_M_curve).1 ∈ lw_tbl := w_657
theorem in_M_isYear : mx_in Y_M_isYear := ⟨by decide, ⟨by decide, by decide⟩, w_9, Or.inl ⟨w_662, rfl⟩⟩
theorem np_M_isYear : (parseMethodDescriptor (Y_M_isYear).1.desc).map (fun sig => sig.parameters.length) = some 1 := by decide +kernel
theorem s_M_isYear : Cond.selects (Y_M_isYear).1.cls (Y_M_isYear).1 (Y_M_isYear).1 ∈ lw_tbl := List.mem_append_left _ (by decide +kernel)
theorem in_M_within : mx_in Y_M_within := ⟨by decide, ⟨by decide, by decide⟩, w_9, Or.inl ⟨w_665, rfl⟩⟩
theorem np_M_within : (parseMethodDescriptor (Y_M_within).1.desc).map (fun sig => sig.parameters.length) = some 3 := by decide +kernel
theorem in_M_goes : mx_in Y_M_goes := ⟨by decide, ⟨by decide, by decide⟩, w_9, Or.inl ⟨w_669, rfl⟩⟩
theorem np_M_goes : (parseMethodDescriptor (Y_M_goes).1.desc).map (fun sig => sig.parameters.length) = some 3 := by decide +kernel
theorem s_M_goes : Cond.selects (Y_M_goes).1.cls (Y_M_goes).1 (Y_M_goes).1 ∈ lw_tbl := List.mem_append_left _ (by decide +kernel)
theorem in_M_put : mx_in Y_M_put := ⟨by decide, ⟨by decide, by decide⟩, w_9, Or.inl ⟨w_673, rfl⟩⟩
theorem np_M_put : (parseMethodDescriptor (Y_M_put).1.desc).map (fun sig => sig.parameters.length) = some 3 := by decide +kernel
theorem s_M_put : Cond.selects (Y_M_put).1.cls (Y_M_put).1 (Y_M_put).1 ∈ lw_tbl := List.mem_append_left _ (by decide +kernel)
theorem in_M_edition : mx_in Y_M_edition := ⟨by decide, ⟨by decide, by decide⟩, w_9, Or.inl ⟨w_677, rfl⟩⟩
theorem np_M_edition : (parseMethodDescriptor (Y_M_edition).1.desc).map (fun sig => sig.parameters.length) = some 0 := by decide +kernel
theorem s_M_edition : Cond.selects (Y_M_edition).1.cls (Y_M_edition).1 (Y_M_edition).1 ∈ lw_tbl := w_676
theorem in_M_use : mx_in Y_M_use := ⟨by decide, ⟨by decide, by decide⟩, w_9, Or.inl ⟨w_681, rfl⟩⟩
theorem np_M_use : (parseMethodDescriptor (Y_M_use).1.desc).map (fun sig => sig.parameters.length) = some 1 := by decide +kernel
theorem s_M_use : Cond.selects (Y_M_use).1.cls (Y_M_use).1 (Y_M_use).1 ∈ lw_tbl := w_680
theorem in_M_reservoir : mx_in Y_M_reservoir := ⟨by decide, ⟨by decide, by decide⟩, w_9, Or.inl ⟨w_685, rfl⟩⟩
theorem np_M_reservoir : (parseMethodDescriptor (Y_M_reservoir).1.desc).map (fun sig => sig.parameters.length) = some 2 := by decide +kernel
theorem s_M_reservoir : Cond.selects (Y_M_reservoir).1.cls (Y_M_reservoir).1 (Y_M_reservoir).1 ∈ lw_tbl := w_684
theorem in_M_date : mx_in Y_M_date := ⟨by decide, ⟨by decide, by decide⟩, w_9, Or.inl ⟨w_689, rfl⟩⟩
theorem np_M_date : (parseMethodDescriptor (Y_M_date).1.desc).map (fun sig => sig.parameters.length) = some 2 := by decide +kernel
theorem s_M_date : Cond.selects (Y_M_date).1.cls (Y_M_date).1 (Y_M_date).1 ∈ lw_tbl := w_688
theorem in_M_measure : mx_in Y_M_measure := ⟨by decide, ⟨by decide, by decide⟩, w_9, Or.inl ⟨w_693, rfl⟩⟩
theorem np_M_measure : (parseMethodDescriptor (Y_M_measure).1.desc).map (fun sig => sig.parameters.length) = some 2 := by decide +kernel
theorem s_M_measure : Cond.selects (Y_M_measure).1.cls (Y_M_measure).1 (Y_M_measure).1 ∈ lw_tbl := List.mem_append_left _ (by decide +kernel)
theorem in_M_weigh : mx_in Y_M_weigh := ⟨by decide, ⟨by decide, by decide⟩, w_9, Or.inl ⟨w_697, rfl⟩⟩
theorem np_M_weigh : (parseMethodDescriptor (Y_M_weigh).1.desc).map (fun sig => sig.parameters.length) = some 3 := by decide +kernel
theorem s_M_weigh : Cond.selects (Y_M_weigh).1.cls (Y_M_weigh).1 (Y_M_weigh).1 ∈ lw_tbl := List.mem_append_left _ (by decide +kernel)
theorem in_M_weight : mx_in Y_M_weight := ⟨by decide, ⟨by decide, by decide⟩, w_9, Or.inl ⟨w_701, rfl⟩⟩
theorem np_M_weight : (parseMethodDescriptor (Y_M_weight).1.desc).map (fun sig => sig.parameters.length) = some 2 := by decide +kernel
theorem s_M_weight : Cond.selects (Y_M_weight).1.cls (Y_M_weight).1 (Y_M_weight).1 ∈ lw_tbl := w_700
theorem in_M_isDate : mx_in Y_M_isDate := ⟨by decide, ⟨by decide, by decide⟩, w_9, Or.inl ⟨w_705, rfl⟩⟩
theorem np_M_isDate : (parseMethodDescriptor (Y_M_isDate).1.desc).map (fun sig => sig.parameters.length) = some 1 := by decide +kernel
theorem s_M_isDate : Cond.selects (Y_M_isDate).1.cls (Y_M_isDate).1 (Y_M_isDate).1 ∈ lw_tbl := List.mem_append_left _ (by decide +kernel)
theorem in_M_total : mx_in Y_M_total := ⟨by decide, ⟨by decide, by decide⟩, w_9, Or.inl ⟨w_709, rfl⟩⟩
theorem np_M_total : (parseMethodDescriptor (Y_M_total).1.desc).map (fun sig => sig.parameters.length) = some 1 := by decide +kernel
theorem s_M_total : Cond.selects (Y_M_total).1.cls (Y_M_total).1 (Y_M_total).1 ∈ lw_tbl := w_708
theorem in_M_totalOf : mx_in Y_M_totalOf := ⟨by decide, ⟨by decide, by decide⟩, w_9, Or.inl ⟨w_713, rfl⟩⟩
theorem np_M_totalOf : (parseMethodDescriptor (Y_M_totalOf).1.desc).map (fun sig => sig.parameters.length) = some 1 := by decide +kernel
theorem s_M_totalOf : Cond.selects (Y_M_totalOf).1.cls (Y_M_totalOf).1 (Y_M_totalOf).1 ∈ lw_tbl := List.mem_append_left _ (by decide +kernel)
theorem in_M_sum : mx_in Y_M_sum := ⟨by decide, ⟨by decide, by decide⟩, w_9, Or.inl ⟨w_717, rfl⟩⟩
theorem np_M_sum : (parseMethodDescriptor (Y_M_sum).1.desc).map (fun sig => sig.parameters.length) = some 2 := by decide +kernel
theorem s_M_sum : Cond.selects (Y_M_sum).1.cls (Y_M_sum).1 (Y_M_sum).1 ∈ lw_tbl := w_716
theorem in_M_mix : mx_in Y_M_mix := ⟨by decide, ⟨by decide, by decide⟩, w_9, Or.inl ⟨w_722, rfl⟩⟩
theorem np_M_mix : (parseMethodDescriptor (Y_M_mix).1.desc).map (fun sig => sig.parameters.length) = some 4 := by decide +kernel
theorem s_M_mix : Cond.selects (Y_M_mix).1.cls (Y_M_mix).1 (Y_M_mix).1 ∈ lw_tbl := w_721
theorem in_M_joinRepeats : mx_in Y_M_joinRepeats := ⟨by decide, ⟨by decide, by decide⟩, w_9, Or.inl ⟨w_726, rfl⟩⟩
theorem np_M_joinRepeats : (parseMethodDescriptor (Y_M_joinRepeats).1.desc).map (fun sig => sig.parameters.length) = some 2 := by decide +kernel
theorem s_M_joinRepeats : Cond.selects (Y_M_joinRepeats).1.cls (Y_M_joinRepeats).1 (Y_M_joinRepeats).1 ∈ lw_tbl := w_725
theorem in_M_least : mx_in Y_M_least := ⟨by decide, ⟨by decide, by decide⟩, w_9, Or.inl ⟨w_730, rfl⟩⟩
theorem np_M_least : (parseMethodDescriptor (Y_M_least).1.desc).map (fun sig => sig.parameters.length) = some 3 := by decide +kernel
theorem s_M_least : Cond.selects (Y_M_least).1.cls (Y_M_least).1 (Y_M_least).1 ∈ lw_tbl := w_729
theorem in_M_isNeeded : mx_in Y_M_isNeeded := ⟨by decide, ⟨by decide, by decide⟩, w_9, Or.inl ⟨w_734, rfl⟩⟩
theorem np_M_isNeeded : (parseMethodDescriptor (Y_M_isNeeded).1.desc).map (fun sig => sig.parameters.length) = some 4 := by decide +kernel
theorem s_M_isNeeded : Cond.selects (Y_M_isNeeded).1.cls (Y_M_isNeeded).1 (Y_M_isNeeded).1 ∈ lw_tbl := List.mem_append_left _ (by decide +kernel)
theorem in_M_spans : mx_in Y_M_spans := ⟨by decide, ⟨by decide, by decide⟩, w_9, Or.inl ⟨w_738, rfl⟩⟩
theorem np_M_spans : (parseMethodDescriptor (Y_M_spans).1.desc).map (fun sig => sig.parameters.length) = some 0 := by decide +kernel
theorem s_M_spans : Cond.selects (Y_M_spans).1.cls (Y_M_spans).1 (Y_M_spans).1 ∈ lw_tbl := List.mem_append_left _ (by decide +kernel)
theorem in_M_begins : mx_in Y_M_begins := ⟨by decide, ⟨by decide, by decide⟩, w_9, Or.inl ⟨w_742, rfl⟩⟩
theorem np_M_begins : (parseMethodDescriptor (Y_M_begins).1.desc).map (fun sig => sig.parameters.length) = some 1 := by decide +kernel
theorem s_M_begins : Cond.selects (Y_M_begins).1.cls (Y_M_begins).1 (Y_M_begins).1 ∈ lw_tbl := List.mem_append_left _ (by decide +kernel)
theorem in_M_span : mx_in Y_M_span := ⟨by decide, ⟨by decide, by decide⟩, w_9, Or.inl ⟨w_746, rfl⟩⟩
theorem np_M_span : (parseMethodDescriptor (Y_M_span).1.desc).map (fun sig => sig.parameters.length) = some 2 := by decide +kernel
theorem s_M_span : Cond.selects (Y_M_span).1.cls (Y_M_span).1 (Y_M_span).1 ∈ lw_tbl := w_745
theorem in_M_gap : mx_in Y_M_gap := ⟨by decide, ⟨by decide, by decide⟩, w_9, Or.inl ⟨w_750, rfl⟩⟩
theorem np_M_gap : (parseMethodDescriptor (Y_M_gap).1.desc).map (fun sig => sig.parameters.length) = some 2 := by decide +kernel
theorem s_M_gap : Cond.selects (Y_M_gap).1.cls (Y_M_gap).1 (Y_M_gap).1 ∈ lw_tbl := w_749
theorem in_M_slid : mx_in Y_M_slid := ⟨by decide, ⟨by decide, by decide⟩, w_9, Or.inl ⟨w_754, rfl⟩⟩
theorem np_M_slid : (parseMethodDescriptor (Y_M_slid).1.desc).map (fun sig => sig.parameters.length) = some 1 := by decide +kernel
theorem s_M_slid : Cond.selects (Y_M_slid).1.cls (Y_M_slid).1 (Y_M_slid).1 ∈ lw_tbl := w_753
theorem in_M_slidTo : mx_in Y_M_slidTo := ⟨by decide, ⟨by decide, by decide⟩, w_9, Or.inl ⟨w_758, rfl⟩⟩
theorem np_M_slidTo : (parseMethodDescriptor (Y_M_slidTo).1.desc).map (fun sig => sig.parameters.length) = some 1 := by decide +kernel
theorem s_M_slidTo : Cond.selects (Y_M_slidTo).1.cls (Y_M_slidTo).1 (Y_M_slidTo).1 ∈ lw_tbl := List.mem_append_left _ (by decide +kernel)
theorem in_M_wiggle : mx_in Y_M_wiggle := ⟨by decide, ⟨by decide, by decide⟩, w_9, Or.inl ⟨w_762, rfl⟩⟩
theorem np_M_wiggle : (parseMethodDescriptor (Y_M_wiggle).1.desc).map (fun sig => sig.parameters.length) = some 0 := by decide +kernel
theorem s_M_wiggle : Cond.selects (Y_M_wiggle).1.cls (Y_M_wiggle).1 (Y_M_wiggle).1 ∈ lw_tbl := w_761
theorem in_M_clear : mx_in Y_M_clear := ⟨by decide, ⟨by decide, by decide⟩, w_9, Or.inl ⟨w_766, rfl⟩⟩
theorem np_M_clear : (parseMethodDescriptor (Y_M_clear).1.desc).map (fun sig => sig.parameters.length) = some 0 := by decide +kernel
theorem s_M_clear : Cond.selects (Y_M_clear).1.cls (Y_M_clear).1 (Y_M_clear).1 ∈ lw_tbl := w_765
theorem in_M_unit : mx_in Y_M_unit := ⟨by decide, ⟨by decide, by decide⟩, w_9, Or.inl ⟨w_770, rfl⟩⟩
theorem np_M_unit : (parseMethodDescriptor (Y_M_unit).1.desc).map (fun sig => sig.parameters.length) = some 2 := by decide +kernel
theorem s_M_unit : Cond.selects (Y_M_unit).1.cls (Y_M_unit).1 (Y_M_unit).1 ∈ lw_tbl := w_769
theorem in_M_plain : mx_in Y_M_plain := ⟨by decide, ⟨by decide, by decide⟩, w_9, Or.inl ⟨w_773, rfl⟩⟩
theorem np_M_plain : (parseMethodDescriptor (Y_M_plain).1.desc).map (fun sig => sig.parameters.length) = some 1 := by decide +kernel
theorem in_M_signs : mx_in Y_M_signs := ⟨by decide, ⟨by decide, by decide⟩, w_9, Or.inl ⟨w_776, rfl⟩⟩
theorem np_M_signs : (parseMethodDescriptor (Y_M_signs).1.desc).map (fun sig => sig.parameters.length) = some 1 := by decide +kernel
theorem in_M_push : mx_in Y_M_push := ⟨by decide, ⟨by decide, by decide⟩, w_9, Or.inl ⟨w_780, rfl⟩⟩
theorem np_M_push : (parseMethodDescriptor (Y_M_push).1.desc).map (fun sig => sig.parameters.length) = some 1 := by decide +kernel
theorem s_M_push : Cond.selects (Y_M_push).1.cls (Y_M_push).1 (Y_M_push).1 ∈ lw_tbl := List.mem_append_left _ (by decide +kernel)
theorem in_M_read : mx_in Y_M_read := ⟨by decide, ⟨by decide, by decide⟩, w_9, Or.inl ⟨w_784, rfl⟩⟩
theorem np_M_read : (parseMethodDescriptor (Y_M_read).1.desc).map (fun sig => sig.parameters.length) = some 0 := by decide +kernel
theorem s_M_read : Cond.selects (Y_M_read).1.cls (Y_M_read).1 (Y_M_read).1 ∈ lw_tbl := w_783
theorem in_M_fault : mx_in Y_M_fault := ⟨by decide, ⟨by decide, by decide⟩, w_9, Or.inl ⟨w_788, rfl⟩⟩
theorem np_M_fault : (parseMethodDescriptor (Y_M_fault).1.desc).map (fun sig => sig.parameters.length) = some 0 := by decide +kernel
theorem s_M_fault : Cond.selects (Y_M_fault).1.cls (Y_M_fault).1 (Y_M_fault).1 ∈ lw_tbl := List.mem_append_left _ (by decide +kernel)
theorem in_M_count : mx_in Y_M_count := ⟨by decide, ⟨by decide, by decide⟩, w_9, Or.inl ⟨w_792, rfl⟩⟩
theorem np_M_count : (parseMethodDescriptor (Y_M_count).1.desc).map (fun sig => sig.parameters.length) = some 1 := by decide +kernel
theorem s_M_count : Cond.selects (Y_M_count).1.cls (Y_M_count).1 (Y_M_count).1 ∈ lw_tbl := w_791
