set_option maxRecDepth 100000 in
theorem ab_M4_ok : ab_M4.all ab_MT = true := by decide +kernel
set_option maxRecDepth 100000 in
theorem ab_M5_ok : ab_M5.all ab_MT = true := by decide +kernel
set_option maxRecDepth 100000 in
theorem ab_M6_ok : ab_M6.all ab_MT = true := by decide +kernel
set_option maxRecDepth 100000 in
theorem ab_M7_ok : ab_M7.all ab_MT = true := by decide +kernel
