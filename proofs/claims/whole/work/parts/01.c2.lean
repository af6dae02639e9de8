set_option maxRecDepth 100000 in
theorem D_W_law_4 : mx_decs code T_W_law_4 = true := by decide +kernel
set_option maxRecDepth 100000 in
theorem D_W_law_5 : mx_decs code T_W_law_5 = true := by decide +kernel
set_option maxRecDepth 100000 in
theorem D_W_law_6 : mx_decs code T_W_law_6 = true := by decide +kernel
set_option maxRecDepth 100000 in
theorem D_W_law_7 : mx_decs code T_W_law_7 = true := by decide +kernel
