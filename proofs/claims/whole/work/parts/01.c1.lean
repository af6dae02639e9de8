set_option maxRecDepth 100000 in
theorem D_W_law_0 : mx_decs code T_W_law_0 = true := by decide +kernel
set_option maxRecDepth 100000 in
theorem D_W_law_1 : mx_decs code T_W_law_1 = true := by decide +kernel
set_option maxRecDepth 100000 in
theorem D_W_law_2 : mx_decs code T_W_law_2 = true := by decide +kernel
set_option maxRecDepth 100000 in
theorem D_W_law_3 : mx_decs code T_W_law_3 = true := by decide +kernel
