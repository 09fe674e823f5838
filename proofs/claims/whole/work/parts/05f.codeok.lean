/-! the bytes decode to the codes -/
set_option maxRecDepth 100000 in
theorem ab_c0_ok : ab_ct 0 cX0_init ab_c0 = true := by decide +kernel
set_option maxRecDepth 100000 in
theorem ab_c1_ok : ab_ct 1 cX0_split ab_c1 = true := by decide +kernel
set_option maxRecDepth 100000 in
theorem ab_c2_ok : ab_ct 2 cX0_firstAtStart ab_c2 = true := by decide +kernel
set_option maxRecDepth 100000 in
theorem ab_c3_ok : ab_ct 3 cX0_isHopeful ab_c3 = true := by decide +kernel
set_option maxRecDepth 100000 in
theorem ab_c4_ok : ab_ct 4 cX0_splitOnce ab_c4 = true := by decide +kernel
set_option maxRecDepth 100000 in
theorem ab_c5_ok : ab_ct 5 cX0_areOperandsAlike ab_c5 = true := by decide +kernel
set_option maxRecDepth 100000 in
theorem ab_c6_ok : ab_ct 6 cX0_isAlike ab_c6 = true := by decide +kernel
set_option maxRecDepth 100000 in
theorem ab_c7_ok : ab_ct 7 cX0_countClasses ab_c7 = true := by decide +kernel
set_option maxRecDepth 100000 in
theorem ab_c8_ok : ab_ct 8 cX0_greatestClass ab_c8 = true := by decide +kernel
set_option maxRecDepth 100000 in
theorem ab_c9_ok : ab_ct 9 cX0_sizeOf ab_c9 = true := by decide +kernel
set_option maxRecDepth 100000 in
theorem ab_c10_ok : ab_ct 10 cX0_leaderOf ab_c10 = true := by decide +kernel
set_option maxRecDepth 100000 in
theorem ab_c11_ok : ab_ct 11 cX1_init ab_c11 = true := by decide +kernel
set_option maxRecDepth 100000 in
theorem ab_c12_ok : ab_ct 12 cX1_find ab_c12 = true := by decide +kernel
set_option maxRecDepth 100000 in
theorem ab_c13_ok : ab_ct 13 cX1_nameOf ab_c13 = true := by decide +kernel
set_option maxRecDepth 100000 in
theorem ab_c14_ok : ab_ct 14 cX1_numberOf ab_c14 = true := by decide +kernel
set_option maxRecDepth 100000 in
theorem ab_c15_ok : ab_ct 15 cX1_isName ab_c15 = true := by decide +kernel
set_option maxRecDepth 100000 in
theorem ab_c16_ok : ab_ct 16 cX1_codeOf ab_c16 = true := by decide +kernel
set_option maxRecDepth 100000 in
theorem ab_c17_ok : ab_ct 17 cX1_codeOfNeg ab_c17 = true := by decide +kernel
set_option maxRecDepth 100000 in
theorem ab_c18_ok : ab_ct 18 cX1_codeOfPair ab_c18 = true := by decide +kernel
set_option maxRecDepth 100000 in
theorem ab_c19_ok : ab_ct 19 cX1_codeOfPhi ab_c19 = true := by decide +kernel
set_option maxRecDepth 100000 in
theorem ab_c20_ok : ab_ct 20 cX1_earlier ab_c20 = true := by decide +kernel
set_option maxRecDepth 100000 in
theorem ab_c21_ok : ab_ct 21 cX1_isSame ab_c21 = true := by decide +kernel
set_option maxRecDepth 100000 in
theorem ab_c22_ok : ab_ct 22 cX1_isSameOperand ab_c22 = true := by decide +kernel
set_option maxRecDepth 100000 in
theorem ab_c23_ok : ab_ct 23 cX2_init ab_c23 = true := by decide +kernel
set_option maxRecDepth 100000 in
theorem ab_c24_ok : ab_ct 24 cX2_forget ab_c24 = true := by decide +kernel
set_option maxRecDepth 100000 in
theorem ab_c25_ok : ab_ct 25 cX2_give ab_c25 = true := by decide +kernel
set_option maxRecDepth 100000 in
theorem ab_c26_ok : ab_ct 26 cX2_giveBySeed ab_c26 = true := by decide +kernel
set_option maxRecDepth 100000 in
theorem ab_c27_ok : ab_ct 27 cX2_watch ab_c27 = true := by decide +kernel
set_option maxRecDepth 100000 in
theorem ab_c28_ok : ab_ct 28 cX2_go ab_c28 = true := by decide +kernel
set_option maxRecDepth 100000 in
theorem ab_c29_ok : ab_ct 29 cX2_nextBlock ab_c29 = true := by decide +kernel
set_option maxRecDepth 100000 in
theorem ab_c30_ok : ab_ct 30 cX2_pass ab_c30 = true := by decide +kernel
set_option maxRecDepth 100000 in
theorem ab_c31_ok : ab_ct 31 cX2_passPhis ab_c31 = true := by decide +kernel
set_option maxRecDepth 100000 in
theorem ab_c32_ok : ab_ct 32 cX2_bringOf ab_c32 = true := by decide +kernel
set_option maxRecDepth 100000 in
theorem ab_c33_ok : ab_ct 33 cX2_compare ab_c33 = true := by decide +kernel
set_option maxRecDepth 100000 in
theorem ab_c34_ok : ab_ct 34 cX3_init ab_c34 = true := by decide +kernel
set_option maxRecDepth 100000 in
theorem ab_c35_ok : ab_ct 35 cX3_clear ab_c35 = true := by decide +kernel
set_option maxRecDepth 100000 in
theorem ab_c36_ok : ab_ct 36 cX3_openBlock ab_c36 = true := by decide +kernel
set_option maxRecDepth 100000 in
theorem ab_c37_ok : ab_ct 37 cX3_openName ab_c37 = true := by decide +kernel
set_option maxRecDepth 100000 in
theorem ab_c38_ok : ab_ct 38 cX3_putFigure ab_c38 = true := by decide +kernel
set_option maxRecDepth 100000 in
theorem ab_c39_ok : ab_ct 39 cX3_putOperand ab_c39 = true := by decide +kernel
set_option maxRecDepth 100000 in
theorem ab_c40_ok : ab_ct 40 cX3_putEnd ab_c40 = true := by decide +kernel
set_option maxRecDepth 100000 in
theorem ab_c41_ok : ab_ct 41 cX3_putAsked ab_c41 = true := by decide +kernel
set_option maxRecDepth 100000 in
theorem ab_c42_ok : ab_ct 42 cX3_putGoal ab_c42 = true := by decide +kernel
set_option maxRecDepth 100000 in
theorem ab_c43_ok : ab_ct 43 cX3_putOther ab_c43 = true := by decide +kernel
set_option maxRecDepth 100000 in
theorem ab_c44_ok : ab_ct 44 cX3_copyFrom ab_c44 = true := by decide +kernel
set_option maxRecDepth 100000 in
theorem ab_c45_ok : ab_ct 45 cX3_hasBlock ab_c45 = true := by decide +kernel
set_option maxRecDepth 100000 in
theorem ab_c46_ok : ab_ct 46 cX3_hasName ab_c46 = true := by decide +kernel
set_option maxRecDepth 100000 in
theorem ab_c47_ok : ab_ct 47 cX3_hasOperand ab_c47 = true := by decide +kernel
set_option maxRecDepth 100000 in
theorem ab_c48_ok : ab_ct 48 cX3_hasFigure ab_c48 = true := by decide +kernel
set_option maxRecDepth 100000 in
theorem ab_c49_ok : ab_ct 49 cX3_successors ab_c49 = true := by decide +kernel
set_option maxRecDepth 100000 in
theorem ab_c50_ok : ab_ct 50 cX3_reachOutside ab_c50 = true := by decide +kernel
set_option maxRecDepth 100000 in
theorem ab_c51_ok : ab_ct 51 cX3_findDominators ab_c51 = true := by decide +kernel
set_option maxRecDepth 100000 in
theorem ab_c52_ok : ab_ct 52 cX3_findPreds ab_c52 = true := by decide +kernel
set_option maxRecDepth 100000 in
theorem ab_c53_ok : ab_ct 53 cX3_nearestDominator ab_c53 = true := by decide +kernel
set_option maxRecDepth 100000 in
theorem ab_c54_ok : ab_ct 54 cX3_routeFrom ab_c54 = true := by decide +kernel
set_option maxRecDepth 100000 in
theorem ab_c55_ok : ab_ct 55 cX3_isSeen ab_c55 = true := by decide +kernel
set_option maxRecDepth 100000 in
theorem ab_c56_ok : ab_ct 56 cX3_isSeenAtEnd ab_c56 = true := by decide +kernel
set_option maxRecDepth 100000 in
theorem ab_c57_ok : ab_ct 57 cX3_isSeenByOperand ab_c57 = true := by decide +kernel
set_option maxRecDepth 100000 in
theorem ab_c58_ok : ab_ct 58 cX3_isSound ab_c58 = true := by decide +kernel
set_option maxRecDepth 100000 in
theorem ab_c59_ok : ab_ct 59 cX3_areOperandsSound ab_c59 = true := by decide +kernel
set_option maxRecDepth 100000 in
theorem ab_c60_ok : ab_ct 60 cX3_looksBehind ab_c60 = true := by decide +kernel
set_option maxRecDepth 100000 in
theorem ab_c61_ok : ab_ct 61 cX3_countKind ab_c61 = true := by decide +kernel
set_option maxRecDepth 100000 in
theorem ab_c62_ok : ab_ct 62 cX3_countOperands ab_c62 = true := by decide +kernel
set_option maxRecDepth 100000 in
theorem ab_c63_ok : ab_ct 63 cX3_countUses ab_c63 = true := by decide +kernel
set_option maxRecDepth 100000 in
theorem ab_c64_ok : ab_ct 64 cX3_sumOfNumbers ab_c64 = true := by decide +kernel
set_option maxRecDepth 100000 in
theorem ab_c65_ok : ab_ct 65 cX3_exchange ab_c65 = true := by decide +kernel
set_option maxRecDepth 100000 in
theorem ab_c66_ok : ab_ct 66 cX3_dropUnneeded ab_c66 = true := by decide +kernel
set_option maxRecDepth 100000 in
theorem ab_c67_ok : ab_ct 67 cX3_findNeeded ab_c67 = true := by decide +kernel
set_option maxRecDepth 100000 in
theorem ab_c68_ok : ab_ct 68 cX3_markOperands ab_c68 = true := by decide +kernel
set_option maxRecDepth 100000 in
theorem ab_c69_ok : ab_ct 69 cX4_init ab_c69 = true := by decide +kernel
set_option maxRecDepth 100000 in
theorem ab_c70_ok : ab_ct 70 cX4_readText ab_c70 = true := by decide +kernel
set_option maxRecDepth 100000 in
theorem ab_c71_ok : ab_ct 71 cX4_refuse ab_c71 = true := by decide +kernel
set_option maxRecDepth 100000 in
theorem ab_c72_ok : ab_ct 72 cX4_readLine ab_c72 = true := by decide +kernel
set_option maxRecDepth 100000 in
theorem ab_c73_ok : ab_ct 73 cX4_readHead ab_c73 = true := by decide +kernel
set_option maxRecDepth 100000 in
theorem ab_c74_ok : ab_ct 74 cX4_readName ab_c74 = true := by decide +kernel
set_option maxRecDepth 100000 in
theorem ab_c75_ok : ab_ct 75 cX4_readFigure ab_c75 = true := by decide +kernel
set_option maxRecDepth 100000 in
theorem ab_c76_ok : ab_ct 76 cX4_readOperands ab_c76 = true := by decide +kernel
set_option maxRecDepth 100000 in
theorem ab_c77_ok : ab_ct 77 cX4_readEnd ab_c77 = true := by decide +kernel
set_option maxRecDepth 100000 in
theorem ab_c78_ok : ab_ct 78 cX4_takeSemicolon ab_c78 = true := by decide +kernel
set_option maxRecDepth 100000 in
theorem ab_c79_ok : ab_ct 79 cX4_takeNumber ab_c79 = true := by decide +kernel
set_option maxRecDepth 100000 in
theorem ab_c80_ok : ab_ct 80 cX4_scan ab_c80 = true := by decide +kernel
set_option maxRecDepth 100000 in
theorem ab_c81_ok : ab_ct 81 cX4_scanToken ab_c81 = true := by decide +kernel
set_option maxRecDepth 100000 in
theorem ab_c82_ok : ab_ct 82 cX4_skip ab_c82 = true := by decide +kernel
set_option maxRecDepth 100000 in
theorem ab_c83_ok : ab_ct 83 cX4_figureFrom ab_c83 = true := by decide +kernel
set_option maxRecDepth 100000 in
theorem ab_c84_ok : ab_ct 84 cX4_wordFrom ab_c84 = true := by decide +kernel
set_option maxRecDepth 100000 in
theorem ab_c85_ok : ab_ct 85 cX4_isWord ab_c85 = true := by decide +kernel
set_option maxRecDepth 100000 in
theorem ab_c86_ok : ab_ct 86 cX5_init ab_c86 = true := by decide +kernel
set_option maxRecDepth 100000 in
theorem ab_c87_ok : ab_ct 87 cX5_renew ab_c87 = true := by decide +kernel
set_option maxRecDepth 100000 in
theorem ab_c88_ok : ab_ct 88 cX5_faultAt ab_c88 = true := by decide +kernel
set_option maxRecDepth 100000 in
theorem ab_c89_ok : ab_ct 89 cX5_faultOfFour ab_c89 = true := by decide +kernel
set_option maxRecDepth 100000 in
theorem ab_c90_ok : ab_ct 90 cX5_write ab_c90 = true := by decide +kernel
set_option maxRecDepth 100000 in
theorem ab_c91_ok : ab_ct 91 cX5_cellAt ab_c91 = true := by decide +kernel
set_option maxRecDepth 100000 in
theorem ab_c92_ok : ab_ct 92 cX6_init ab_c92 = true := by decide +kernel
set_option maxRecDepth 100000 in
theorem ab_c93_ok : ab_ct 93 cX6_push ab_c93 = true := by decide +kernel
set_option maxRecDepth 100000 in
theorem ab_c94_ok : ab_ct 94 cX6_has ab_c94 = true := by decide +kernel
set_option maxRecDepth 100000 in
theorem ab_c95_ok : ab_ct 95 cX7_init ab_c95 = true := by decide +kernel
set_option maxRecDepth 100000 in
theorem ab_c96_ok : ab_ct 96 cX7_feed ab_c96 = true := by decide +kernel
set_option maxRecDepth 100000 in
theorem ab_c97_ok : ab_ct 97 cX7_end ab_c97 = true := by decide +kernel
set_option maxRecDepth 100000 in
theorem ab_c98_ok : ab_ct 98 cX7_text ab_c98 = true := by decide +kernel
set_option maxRecDepth 100000 in
theorem ab_c99_ok : ab_ct 99 cX7_fault ab_c99 = true := by decide +kernel
set_option maxRecDepth 100000 in
theorem ab_c100_ok : ab_ct 100 cX7_rule ab_c100 = true := by decide +kernel
set_option maxRecDepth 100000 in
theorem ab_c101_ok : ab_ct 101 cX7_block ab_c101 = true := by decide +kernel
set_option maxRecDepth 100000 in
theorem ab_c102_ok : ab_ct 102 cX7_pred ab_c102 = true := by decide +kernel
set_option maxRecDepth 100000 in
theorem ab_c103_ok : ab_ct 103 cX7_name ab_c103 = true := by decide +kernel
set_option maxRecDepth 100000 in
theorem ab_c104_ok : ab_ct 104 cX7_operand ab_c104 = true := by decide +kernel
set_option maxRecDepth 100000 in
theorem ab_c105_ok : ab_ct 105 cX7_seen ab_c105 = true := by decide +kernel
set_option maxRecDepth 100000 in
theorem ab_c106_ok : ab_ct 106 cX7_run ab_c106 = true := by decide +kernel
set_option maxRecDepth 100000 in
theorem ab_c107_ok : ab_ct 107 cX7_value ab_c107 = true := by decide +kernel
set_option maxRecDepth 100000 in
theorem ab_c108_ok : ab_ct 108 cX7_went ab_c108 = true := by decide +kernel
set_option maxRecDepth 100000 in
theorem ab_c109_ok : ab_ct 109 cX7_classes ab_c109 = true := by decide +kernel
set_option maxRecDepth 100000 in
theorem ab_c110_ok : ab_ct 110 cX7_part ab_c110 = true := by decide +kernel
set_option maxRecDepth 100000 in
theorem ab_c111_ok : ab_ct 111 cX7_partAt ab_c111 = true := by decide +kernel
set_option maxRecDepth 100000 in
theorem ab_c112_ok : ab_ct 112 cX7_leader ab_c112 = true := by decide +kernel
set_option maxRecDepth 100000 in
theorem ab_c113_ok : ab_ct 113 cX7_form ab_c113 = true := by decide +kernel
set_option maxRecDepth 100000 in
theorem ab_c114_ok : ab_ct 114 cX7_number ab_c114 = true := by decide +kernel
set_option maxRecDepth 100000 in
theorem ab_c115_ok : ab_ct 115 cX7_replace ab_c115 = true := by decide +kernel
set_option maxRecDepth 100000 in
theorem ab_c116_ok : ab_ct 116 cX7_sweep ab_c116 = true := by decide +kernel
set_option maxRecDepth 100000 in
theorem ab_c117_ok : ab_ct 117 cX7_set ab_c117 = true := by decide +kernel
set_option maxRecDepth 100000 in
theorem ab_c118_ok : ab_ct 118 cX7_alter ab_c118 = true := by decide +kernel
set_option maxRecDepth 100000 in
theorem ab_c119_ok : ab_ct 119 cX7_agree ab_c119 = true := by decide +kernel
set_option maxRecDepth 100000 in
theorem ab_c120_ok : ab_ct 120 cX7_keep ab_c120 = true := by decide +kernel
set_option maxRecDepth 100000 in
theorem ab_c121_ok : ab_ct 121 cX7_back ab_c121 = true := by decide +kernel
set_option maxRecDepth 100000 in
theorem ab_c122_ok : ab_ct 122 cX7_sheet ab_c122 = true := by decide +kernel
set_option maxRecDepth 100000 in
theorem ab_c123_ok : ab_ct 123 cX7_lay ab_c123 = true := by decide +kernel
set_option maxRecDepth 100000 in
theorem ab_c124_ok : ab_ct 124 cX7_read ab_c124 = true := by decide +kernel
set_option maxRecDepth 100000 in
theorem ab_c125_ok : ab_ct 125 cX7_torn ab_c125 = true := by decide +kernel
set_option maxRecDepth 100000 in
theorem ab_c126_ok : ab_ct 126 cX7_count ab_c126 = true := by decide +kernel
set_option maxRecDepth 100000 in
theorem ab_c127_ok : ab_ct 127 cX7_countImages ab_c127 = true := by decide +kernel
set_option maxRecDepth 100000 in
theorem ab_c128_ok : ab_ct 128 cX7_giveCells ab_c128 = true := by decide +kernel
set_option maxRecDepth 100000 in
theorem ab_c129_ok : ab_ct 129 cX7_highestFigure ab_c129 = true := by decide +kernel
set_option maxRecDepth 100000 in
theorem ab_c130_ok : ab_ct 130 cX7_hasBit ab_c130 = true := by decide +kernel
set_option maxRecDepth 100000 in
theorem ab_c131_ok : ab_ct 131 cX7_bring ab_c131 = true := by decide +kernel
set_option maxRecDepth 100000 in
theorem ab_c132_ok : ab_ct 132 cX8_init ab_c132 = true := by decide +kernel
set_option maxRecDepth 100000 in
theorem ab_c133_ok : ab_ct 133 cX8_in ab_c133 = true := by decide +kernel
set_option maxRecDepth 100000 in
theorem ab_c134_ok : ab_ct 134 cX8_feed ab_c134 = true := by decide +kernel
set_option maxRecDepth 100000 in
theorem ab_c135_ok : ab_ct 135 cX8_end ab_c135 = true := by decide +kernel
set_option maxRecDepth 100000 in
theorem ab_c136_ok : ab_ct 136 cX8_byteAt ab_c136 = true := by decide +kernel
set_option maxRecDepth 100000 in
theorem ab_c137_ok : ab_ct 137 cX8_fails ab_c137 = true := by decide +kernel
set_option maxRecDepth 100000 in
theorem ab_c138_ok : ab_ct 138 cX8_nameHere ab_c138 = true := by decide +kernel
set_option maxRecDepth 100000 in
theorem ab_c139_ok : ab_ct 139 cX8_readsOn ab_c139 = true := by decide +kernel
set_option maxRecDepth 100000 in
theorem ab_c140_ok : ab_ct 140 cX8_numberRead ab_c140 = true := by decide +kernel
set_option maxRecDepth 100000 in
theorem ab_c141_ok : ab_ct 141 cX8_endsLine ab_c141 = true := by decide +kernel
set_option maxRecDepth 100000 in
theorem ab_c142_ok : ab_ct 142 cX8_operandsOf ab_c142 = true := by decide +kernel
set_option maxRecDepth 100000 in
theorem ab_c143_ok : ab_ct 143 cX8_readName ab_c143 = true := by decide +kernel
set_option maxRecDepth 100000 in
theorem ab_c144_ok : ab_ct 144 cX8_readEnd ab_c144 = true := by decide +kernel
set_option maxRecDepth 100000 in
theorem ab_c145_ok : ab_ct 145 cX8_readBlock ab_c145 = true := by decide +kernel
set_option maxRecDepth 100000 in
theorem ab_c146_ok : ab_ct 146 cX8_text ab_c146 = true := by decide +kernel
set_option maxRecDepth 100000 in
theorem ab_c147_ok : ab_ct 147 cX8_fault ab_c147 = true := by decide +kernel
set_option maxRecDepth 100000 in
theorem ab_c148_ok : ab_ct 148 cX8_copies ab_c148 = true := by decide +kernel
set_option maxRecDepth 100000 in
theorem ab_c149_ok : ab_ct 149 cX8_comesOn ab_c149 = true := by decide +kernel
set_option maxRecDepth 100000 in
theorem ab_c150_ok : ab_ct 150 cX8_shapesOn ab_c150 = true := by decide +kernel
set_option maxRecDepth 100000 in
theorem ab_c151_ok : ab_ct 151 cX8_isOver ab_c151 = true := by decide +kernel
set_option maxRecDepth 100000 in
theorem ab_c152_ok : ab_ct 152 cX8_isSeenOn ab_c152 = true := by decide +kernel
set_option maxRecDepth 100000 in
theorem ab_c153_ok : ab_ct 153 cX8_isSeenAtEnd ab_c153 = true := by decide +kernel
set_option maxRecDepth 100000 in
theorem ab_c154_ok : ab_ct 154 cX8_isSeenAsOperand ab_c154 = true := by decide +kernel
set_option maxRecDepth 100000 in
theorem ab_c155_ok : ab_ct 155 cX8_isBlockWhole ab_c155 = true := by decide +kernel
set_option maxRecDepth 100000 in
theorem ab_c156_ok : ab_ct 156 cX8_isNameWhole ab_c156 = true := by decide +kernel
set_option maxRecDepth 100000 in
theorem ab_c157_ok : ab_ct 157 cX8_isWhole ab_c157 = true := by decide +kernel
set_option maxRecDepth 100000 in
theorem ab_c158_ok : ab_ct 158 cX8_isBlock ab_c158 = true := by decide +kernel
set_option maxRecDepth 100000 in
theorem ab_c159_ok : ab_ct 159 cX8_isName ab_c159 = true := by decide +kernel
set_option maxRecDepth 100000 in
theorem ab_c160_ok : ab_ct 160 cX8_ofKind ab_c160 = true := by decide +kernel
set_option maxRecDepth 100000 in
theorem ab_c161_ok : ab_ct 161 cX8_uses ab_c161 = true := by decide +kernel
set_option maxRecDepth 100000 in
theorem ab_c162_ok : ab_ct 162 cX8_rule ab_c162 = true := by decide +kernel
set_option maxRecDepth 100000 in
theorem ab_c163_ok : ab_ct 163 cX8_nearest ab_c163 = true := by decide +kernel
set_option maxRecDepth 100000 in
theorem ab_c164_ok : ab_ct 164 cX8_block ab_c164 = true := by decide +kernel
set_option maxRecDepth 100000 in
theorem ab_c165_ok : ab_ct 165 cX8_pred ab_c165 = true := by decide +kernel
set_option maxRecDepth 100000 in
theorem ab_c166_ok : ab_ct 166 cX8_name ab_c166 = true := by decide +kernel
set_option maxRecDepth 100000 in
theorem ab_c167_ok : ab_ct 167 cX8_isOperand ab_c167 = true := by decide +kernel
set_option maxRecDepth 100000 in
theorem ab_c168_ok : ab_ct 168 cX8_operand ab_c168 = true := by decide +kernel
set_option maxRecDepth 100000 in
theorem ab_c169_ok : ab_ct 169 cX8_seen ab_c169 = true := by decide +kernel
set_option maxRecDepth 100000 in
theorem ab_c170_ok : ab_ct 170 cX8_brings ab_c170 = true := by decide +kernel
set_option maxRecDepth 100000 in
theorem ab_c171_ok : ab_ct 171 cX8_valueOf ab_c171 = true := by decide +kernel
set_option maxRecDepth 100000 in
theorem ab_c172_ok : ab_ct 172 cX8_compares ab_c172 = true := by decide +kernel
set_option maxRecDepth 100000 in
theorem ab_c173_ok : ab_ct 173 cX8_goesThrough ab_c173 = true := by decide +kernel
set_option maxRecDepth 100000 in
theorem ab_c174_ok : ab_ct 174 cX8_goes ab_c174 = true := by decide +kernel
set_option maxRecDepth 100000 in
theorem ab_c175_ok : ab_ct 175 cX8_runsNow ab_c175 = true := by decide +kernel
set_option maxRecDepth 100000 in
theorem ab_c176_ok : ab_ct 176 cX8_run ab_c176 = true := by decide +kernel
set_option maxRecDepth 100000 in
theorem ab_c177_ok : ab_ct 177 cX8_value ab_c177 = true := by decide +kernel
set_option maxRecDepth 100000 in
theorem ab_c178_ok : ab_ct 178 cX8_went ab_c178 = true := by decide +kernel
set_option maxRecDepth 100000 in
theorem ab_c179_ok : ab_ct 179 cX8_isAlikeFirst ab_c179 = true := by decide +kernel
set_option maxRecDepth 100000 in
theorem ab_c180_ok : ab_ct 180 cX8_isAlikeNext ab_c180 = true := by decide +kernel
set_option maxRecDepth 100000 in
theorem ab_c181_ok : ab_ct 181 cX8_splits ab_c181 = true := by decide +kernel
set_option maxRecDepth 100000 in
theorem ab_c182_ok : ab_ct 182 cX8_rounds ab_c182 = true := by decide +kernel
set_option maxRecDepth 100000 in
theorem ab_c183_ok : ab_ct 183 cX8_classes ab_c183 = true := by decide +kernel
set_option maxRecDepth 100000 in
theorem ab_c184_ok : ab_ct 184 cX8_part ab_c184 = true := by decide +kernel
set_option maxRecDepth 100000 in
theorem ab_c185_ok : ab_ct 185 cX8_partAt ab_c185 = true := by decide +kernel
set_option maxRecDepth 100000 in
theorem ab_c186_ok : ab_ct 186 cX8_isAmong ab_c186 = true := by decide +kernel
set_option maxRecDepth 100000 in
theorem ab_c187_ok : ab_ct 187 cX8_leaderOf ab_c187 = true := by decide +kernel
set_option maxRecDepth 100000 in
theorem ab_c188_ok : ab_ct 188 cX8_leader ab_c188 = true := by decide +kernel
set_option maxRecDepth 100000 in
theorem ab_c189_ok : ab_ct 189 cX8_isSameForm ab_c189 = true := by decide +kernel
set_option maxRecDepth 100000 in
theorem ab_c190_ok : ab_ct 190 cX8_isNumber ab_c190 = true := by decide +kernel
set_option maxRecDepth 100000 in
theorem ab_c191_ok : ab_ct 191 cX8_becomes ab_c191 = true := by decide +kernel
set_option maxRecDepth 100000 in
theorem ab_c192_ok : ab_ct 192 cX8_becomesAs ab_c192 = true := by decide +kernel
set_option maxRecDepth 100000 in
theorem ab_c193_ok : ab_ct 193 cX8_operandOf ab_c193 = true := by decide +kernel
set_option maxRecDepth 100000 in
theorem ab_c194_ok : ab_ct 194 cX8_isBehindAll ab_c194 = true := by decide +kernel
set_option maxRecDepth 100000 in
theorem ab_c195_ok : ab_ct 195 cX8_isOfOne ab_c195 = true := by decide +kernel
set_option maxRecDepth 100000 in
theorem ab_c196_ok : ab_ct 196 cX8_isFormAs ab_c196 = true := by decide +kernel
set_option maxRecDepth 100000 in
theorem ab_c197_ok : ab_ct 197 cX8_becomesFirst ab_c197 = true := by decide +kernel
set_option maxRecDepth 100000 in
theorem ab_c198_ok : ab_ct 198 cX8_formsNegative ab_c198 = true := by decide +kernel
set_option maxRecDepth 100000 in
theorem ab_c199_ok : ab_ct 199 cX8_formsPair ab_c199 = true := by decide +kernel
set_option maxRecDepth 100000 in
theorem ab_c200_ok : ab_ct 200 cX8_forms ab_c200 = true := by decide +kernel
set_option maxRecDepth 100000 in
theorem ab_c201_ok : ab_ct 201 cX8_form ab_c201 = true := by decide +kernel
set_option maxRecDepth 100000 in
theorem ab_c202_ok : ab_ct 202 cX8_number ab_c202 = true := by decide +kernel
set_option maxRecDepth 100000 in
theorem ab_c203_ok : ab_ct 203 cX8_replace ab_c203 = true := by decide +kernel
set_option maxRecDepth 100000 in
theorem ab_c204_ok : ab_ct 204 cX8_sweep ab_c204 = true := by decide +kernel
set_option maxRecDepth 100000 in
theorem ab_c205_ok : ab_ct 205 cX8_set ab_c205 = true := by decide +kernel
set_option maxRecDepth 100000 in
theorem ab_c206_ok : ab_ct 206 cX8_alter ab_c206 = true := by decide +kernel
set_option maxRecDepth 100000 in
theorem ab_c207_ok : ab_ct 207 cX8_agree ab_c207 = true := by decide +kernel
set_option maxRecDepth 100000 in
theorem ab_c208_ok : ab_ct 208 cX8_keep ab_c208 = true := by decide +kernel
set_option maxRecDepth 100000 in
theorem ab_c209_ok : ab_ct 209 cX8_back ab_c209 = true := by decide +kernel
set_option maxRecDepth 100000 in
theorem ab_c210_ok : ab_ct 210 cX8_sheet ab_c210 = true := by decide +kernel
set_option maxRecDepth 100000 in
theorem ab_c211_ok : ab_ct 211 cX8_lay ab_c211 = true := by decide +kernel
set_option maxRecDepth 100000 in
theorem ab_c212_ok : ab_ct 212 cX8_foundAt ab_c212 = true := by decide +kernel
set_option maxRecDepth 100000 in
theorem ab_c213_ok : ab_ct 213 cX8_read ab_c213 = true := by decide +kernel
set_option maxRecDepth 100000 in
theorem ab_c214_ok : ab_ct 214 cX8_torn ab_c214 = true := by decide +kernel
set_option maxRecDepth 100000 in
theorem ab_c215_ok : ab_ct 215 cX8_count ab_c215 = true := by decide +kernel
set_option maxRecDepth 100000 in
theorem ab_c216_ok : ab_ct 216 cJ6_bitCount_0f7a4 ab_c216 = true := by decide +kernel
