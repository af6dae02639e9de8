set_option maxRecDepth 100000 in
theorem D_W_law_12 : mx_decs code T_W_law_12 = true := by decide +kernel
set_option maxRecDepth 100000 in
theorem D_W_law_13 : mx_decs code T_W_law_13 = true := by decide +kernel
set_option maxRecDepth 100000 in
theorem D_W_law_14 : mx_decs code T_W_law_14 = true := by decide +kernel
set_option maxRecDepth 100000 in
theorem D_W_law_15 : mx_decs code T_W_law_15 = true := by decide +kernel
