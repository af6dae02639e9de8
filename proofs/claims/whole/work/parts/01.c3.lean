set_option maxRecDepth 100000 in
theorem D_W_law_8 : mx_decs code T_W_law_8 = true := by decide +kernel
set_option maxRecDepth 100000 in
theorem D_W_law_9 : mx_decs code T_W_law_9 = true := by decide +kernel
set_option maxRecDepth 100000 in
theorem D_W_law_10 : mx_decs code T_W_law_10 = true := by decide +kernel
set_option maxRecDepth 100000 in
theorem D_W_law_11 : mx_decs code T_W_law_11 = true := by decide +kernel
