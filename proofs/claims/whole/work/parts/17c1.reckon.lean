/-! The reckoning, counts 0 on. -/
set_option maxRecDepth 100000 in
theorem fl_b40 : n_all n_ok 6 2560 = true := by decide +kernel
set_option maxRecDepth 100000 in
theorem fl_b41 : n_all n_ok 6 2624 = true := by decide +kernel
