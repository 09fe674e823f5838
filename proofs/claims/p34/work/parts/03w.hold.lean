set_option maxRecDepth 100000 in
theorem ab_M8_ok : ab_M8.all ab_MT = true := by decide +kernel
set_option maxRecDepth 100000 in
theorem ab_M9_ok : ab_M9.all ab_MT = true := by decide +kernel
set_option maxRecDepth 100000 in
theorem ab_M10_ok : ab_M10.all ab_MT = true := by decide +kernel
set_option maxRecDepth 100000 in
theorem ab_M11_ok : ab_M11.all ab_MT = true := by decide +kernel
