/-! the bytes decode to the codes -/
set_option maxRecDepth 100000 in
theorem ab_c0_ok : ab_ct 0 cX0_init ab_c0 = true := by decide +kernel
set_option maxRecDepth 100000 in
theorem ab_c1_ok : ab_ct 1 cX0_split ab_c1 = true := by decide +kernel
set_option maxRecDepth 100000 in
theorem ab_c2_ok : ab_ct 2 cX0_firstAtStart ab_c2 = true := by decide +kernel
set_option maxRecDepth 100000 in
theorem ab_c3_ok : ab_ct 3 cX0_isHopeful ab_c3 = true := by decide +kernel
set_option maxRecDepth 100000 in
theorem ab_c4_ok : ab_ct 4 cX0_splitOnce ab_c4 = true := by decide +kernel
set_option maxRecDepth 100000 in
theorem ab_c5_ok : ab_ct 5 cX0_areOperandsAlike ab_c5 = true := by decide +kernel
set_option maxRecDepth 100000 in
theorem ab_c6_ok : ab_ct 6 cX0_isAlike ab_c6 = true := by decide +kernel
set_option maxRecDepth 100000 in
theorem ab_c7_ok : ab_ct 7 cX0_countClasses ab_c7 = true := by decide +kernel
set_option maxRecDepth 100000 in
theorem ab_c8_ok : ab_ct 8 cX0_greatestClass ab_c8 = true := by decide +kernel
set_option maxRecDepth 100000 in
theorem ab_c9_ok : ab_ct 9 cX0_sizeOf ab_c9 = true := by decide +kernel
set_option maxRecDepth 100000 in
theorem ab_c10_ok : ab_ct 10 cX0_leaderOf ab_c10 = true := by decide +kernel
set_option maxRecDepth 100000 in
theorem ab_c11_ok : ab_ct 11 cX1_init ab_c11 = true := by decide +kernel
set_option maxRecDepth 100000 in
theorem ab_c12_ok : ab_ct 12 cX1_find ab_c12 = true := by decide +kernel
set_option maxRecDepth 100000 in
theorem ab_c13_ok : ab_ct 13 cX1_nameOf ab_c13 = true := by decide +kernel
set_option maxRecDepth 100000 in
theorem ab_c14_ok : ab_ct 14 cX1_numberOf ab_c14 = true := by decide +kernel
set_option maxRecDepth 100000 in
theorem ab_c15_ok : ab_ct 15 cX1_isName ab_c15 = true := by decide +kernel
set_option maxRecDepth 100000 in
theorem ab_c16_ok : ab_ct 16 cX1_codeOf ab_c16 = true := by decide +kernel
set_option maxRecDepth 100000 in
theorem ab_c17_ok : ab_ct 17 cX1_codeOfNeg ab_c17 = true := by decide +kernel
set_option maxRecDepth 100000 in
theorem ab_c18_ok : ab_ct 18 cX1_codeOfPair ab_c18 = true := by decide +kernel
set_option maxRecDepth 100000 in
theorem ab_c19_ok : ab_ct 19 cX1_codeOfPhi ab_c19 = true := by decide +kernel
set_option maxRecDepth 100000 in
theorem ab_c20_ok : ab_ct 20 cX1_earlier ab_c20 = true := by decide +kernel
set_option maxRecDepth 100000 in
theorem ab_c21_ok : ab_ct 21 cX1_isSame ab_c21 = true := by decide +kernel
set_option maxRecDepth 100000 in
theorem ab_c22_ok : ab_ct 22 cX1_isSameOperand ab_c22 = true := by decide +kernel
set_option maxRecDepth 100000 in
theorem ab_c23_ok : ab_ct 23 cX2_init ab_c23 = true := by decide +kernel
set_option maxRecDepth 100000 in
theorem ab_c24_ok : ab_ct 24 cX2_forget ab_c24 = true := by decide +kernel
set_option maxRecDepth 100000 in
theorem ab_c25_ok : ab_ct 25 cX2_give ab_c25 = true := by decide +kernel
set_option maxRecDepth 100000 in
theorem ab_c26_ok : ab_ct 26 cX2_giveBySeed ab_c26 = true := by decide +kernel
set_option maxRecDepth 100000 in
theorem ab_c27_ok : ab_ct 27 cX2_watch ab_c27 = true := by decide +kernel
set_option maxRecDepth 100000 in
theorem ab_c28_ok : ab_ct 28 cX2_go ab_c28 = true := by decide +kernel
set_option maxRecDepth 100000 in
theorem ab_c29_ok : ab_ct 29 cX2_nextBlock ab_c29 = true := by decide +kernel
set_option maxRecDepth 100000 in
theorem ab_c30_ok : ab_ct 30 cX2_pass ab_c30 = true := by decide +kernel
set_option maxRecDepth 100000 in
theorem ab_c31_ok : ab_ct 31 cX2_passPhis ab_c31 = true := by decide +kernel
set_option maxRecDepth 100000 in
theorem ab_c32_ok : ab_ct 32 cX2_bringOf ab_c32 = true := by decide +kernel
set_option maxRecDepth 100000 in
theorem ab_c33_ok : ab_ct 33 cX2_compare ab_c33 = true := by decide +kernel
set_option maxRecDepth 100000 in
theorem ab_c34_ok : ab_ct 34 cX3_init ab_c34 = true := by decide +kernel
set_option maxRecDepth 100000 in
theorem ab_c35_ok : ab_ct 35 cX3_clear ab_c35 = true := by decide +kernel
set_option maxRecDepth 100000 in
theorem ab_c36_ok : ab_ct 36 cX3_openBlock ab_c36 = true := by decide +kernel
