set_option maxRecDepth 100000 in
theorem ab_M0_ok : ab_M0.all ab_MT = true := by decide +kernel
set_option maxRecDepth 100000 in
theorem ab_M1_ok : ab_M1.all ab_MT = true := by decide +kernel
set_option maxRecDepth 100000 in
theorem ab_M2_ok : ab_M2.all ab_MT = true := by decide +kernel
set_option maxRecDepth 100000 in
theorem ab_M3_ok : ab_M3.all ab_MT = true := by decide +kernel
