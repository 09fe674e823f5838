set_option maxRecDepth 100000 in
theorem ab_M12_ok : ab_M12.all ab_MT = true := by decide +kernel
set_option maxRecDepth 100000 in
theorem ab_M13_ok : ab_M13.all ab_MT = true := by decide +kernel
set_option maxRecDepth 100000 in
theorem ab_M14_ok : ab_M14.all ab_MT = true := by decide +kernel
