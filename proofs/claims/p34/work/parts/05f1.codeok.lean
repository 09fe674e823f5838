/-! the bytes decode to the codes -/
set_option maxRecDepth 100000 in
theorem ab_c37_ok : ab_ct 37 cX3_openName ab_c37 = true := by decide +kernel
set_option maxRecDepth 100000 in
theorem ab_c38_ok : ab_ct 38 cX3_putFigure ab_c38 = true := by decide +kernel
set_option maxRecDepth 100000 in
theorem ab_c39_ok : ab_ct 39 cX3_putOperand ab_c39 = true := by decide +kernel
set_option maxRecDepth 100000 in
theorem ab_c40_ok : ab_ct 40 cX3_putEnd ab_c40 = true := by decide +kernel
set_option maxRecDepth 100000 in
theorem ab_c41_ok : ab_ct 41 cX3_putAsked ab_c41 = true := by decide +kernel
set_option maxRecDepth 100000 in
theorem ab_c42_ok : ab_ct 42 cX3_putGoal ab_c42 = true := by decide +kernel
set_option maxRecDepth 100000 in
theorem ab_c43_ok : ab_ct 43 cX3_putOther ab_c43 = true := by decide +kernel
set_option maxRecDepth 100000 in
theorem ab_c44_ok : ab_ct 44 cX3_copyFrom ab_c44 = true := by decide +kernel
set_option maxRecDepth 100000 in
theorem ab_c45_ok : ab_ct 45 cX3_hasBlock ab_c45 = true := by decide +kernel
set_option maxRecDepth 100000 in
theorem ab_c46_ok : ab_ct 46 cX3_hasName ab_c46 = true := by decide +kernel
set_option maxRecDepth 100000 in
theorem ab_c47_ok : ab_ct 47 cX3_hasOperand ab_c47 = true := by decide +kernel
set_option maxRecDepth 100000 in
theorem ab_c48_ok : ab_ct 48 cX3_hasFigure ab_c48 = true := by decide +kernel
set_option maxRecDepth 100000 in
theorem ab_c49_ok : ab_ct 49 cX3_successors ab_c49 = true := by decide +kernel
set_option maxRecDepth 100000 in
theorem ab_c50_ok : ab_ct 50 cX3_reachOutside ab_c50 = true := by decide +kernel
set_option maxRecDepth 100000 in
theorem ab_c51_ok : ab_ct 51 cX3_findDominators ab_c51 = true := by decide +kernel
set_option maxRecDepth 100000 in
theorem ab_c52_ok : ab_ct 52 cX3_findPreds ab_c52 = true := by decide +kernel
set_option maxRecDepth 100000 in
theorem ab_c53_ok : ab_ct 53 cX7_fault ab_c53 = true := by decide +kernel
set_option maxRecDepth 100000 in
theorem ab_c54_ok : ab_ct 54 cX3_routeFrom ab_c54 = true := by decide +kernel
set_option maxRecDepth 100000 in
theorem ab_c55_ok : ab_ct 55 cX3_isSeen ab_c55 = true := by decide +kernel
set_option maxRecDepth 100000 in
theorem ab_c56_ok : ab_ct 56 cX3_isSeenAtEnd ab_c56 = true := by decide +kernel
set_option maxRecDepth 100000 in
theorem ab_c57_ok : ab_ct 57 cX3_isSeenByOperand ab_c57 = true := by decide +kernel
set_option maxRecDepth 100000 in
theorem ab_c58_ok : ab_ct 58 cX3_isSound ab_c58 = true := by decide +kernel
set_option maxRecDepth 100000 in
theorem ab_c59_ok : ab_ct 59 cX3_areOperandsSound ab_c59 = true := by decide +kernel
set_option maxRecDepth 100000 in
theorem ab_c60_ok : ab_ct 60 cX3_looksBehind ab_c60 = true := by decide +kernel
set_option maxRecDepth 100000 in
theorem ab_c61_ok : ab_ct 61 cX3_countKind ab_c61 = true := by decide +kernel
set_option maxRecDepth 100000 in
theorem ab_c62_ok : ab_ct 62 cX3_countOperands ab_c62 = true := by decide +kernel
set_option maxRecDepth 100000 in
theorem ab_c63_ok : ab_ct 63 cX3_countUses ab_c63 = true := by decide +kernel
set_option maxRecDepth 100000 in
theorem ab_c64_ok : ab_ct 64 cX7_fault ab_c64 = true := by decide +kernel
set_option maxRecDepth 100000 in
theorem ab_c65_ok : ab_ct 65 cX3_exchange ab_c65 = true := by decide +kernel
set_option maxRecDepth 100000 in
theorem ab_c66_ok : ab_ct 66 cX3_dropUnneeded ab_c66 = true := by decide +kernel
set_option maxRecDepth 100000 in
theorem ab_c67_ok : ab_ct 67 cX3_findNeeded ab_c67 = true := by decide +kernel
set_option maxRecDepth 100000 in
theorem ab_c68_ok : ab_ct 68 cX3_markOperands ab_c68 = true := by decide +kernel
set_option maxRecDepth 100000 in
theorem ab_c69_ok : ab_ct 69 cX4_init ab_c69 = true := by decide +kernel
set_option maxRecDepth 100000 in
theorem ab_c70_ok : ab_ct 70 cX4_readText ab_c70 = true := by decide +kernel
set_option maxRecDepth 100000 in
theorem ab_c71_ok : ab_ct 71 cX4_refuse ab_c71 = true := by decide +kernel
set_option maxRecDepth 100000 in
theorem ab_c72_ok : ab_ct 72 cX4_readLine ab_c72 = true := by decide +kernel
set_option maxRecDepth 100000 in
theorem ab_c73_ok : ab_ct 73 cX4_readHead ab_c73 = true := by decide +kernel
