set_option maxRecDepth 100000 in
theorem ab_c110_ok : ab_ct 110 cX7_part ab_c110 = true := by decide +kernel
set_option maxRecDepth 100000 in
theorem ab_c111_ok : ab_ct 111 cX7_partAt ab_c111 = true := by decide +kernel
set_option maxRecDepth 100000 in
theorem ab_c112_ok : ab_ct 112 cX7_leader ab_c112 = true := by decide +kernel
set_option maxRecDepth 100000 in
theorem ab_c113_ok : ab_ct 113 cX7_form ab_c113 = true := by decide +kernel
set_option maxRecDepth 100000 in
theorem ab_c114_ok : ab_ct 114 cX7_number ab_c114 = true := by decide +kernel
set_option maxRecDepth 100000 in
theorem ab_c115_ok : ab_ct 115 cX7_replace ab_c115 = true := by decide +kernel
set_option maxRecDepth 100000 in
theorem ab_c116_ok : ab_ct 116 cX7_sweep ab_c116 = true := by decide +kernel
set_option maxRecDepth 100000 in
theorem ab_c117_ok : ab_ct 117 cX7_set ab_c117 = true := by decide +kernel
set_option maxRecDepth 100000 in
theorem ab_c118_ok : ab_ct 118 cX7_alter ab_c118 = true := by decide +kernel
set_option maxRecDepth 100000 in
theorem ab_c119_ok : ab_ct 119 cX7_agree ab_c119 = true := by decide +kernel
set_option maxRecDepth 100000 in
theorem ab_c120_ok : ab_ct 120 cX7_keep ab_c120 = true := by decide +kernel
set_option maxRecDepth 100000 in
theorem ab_c121_ok : ab_ct 121 cX7_back ab_c121 = true := by decide +kernel
set_option maxRecDepth 100000 in
theorem ab_c122_ok : ab_ct 122 cX7_sheet ab_c122 = true := by decide +kernel
set_option maxRecDepth 100000 in
theorem ab_c123_ok : ab_ct 123 cX7_lay ab_c123 = true := by decide +kernel
set_option maxRecDepth 100000 in
theorem ab_c124_ok : ab_ct 124 cX7_read ab_c124 = true := by decide +kernel
set_option maxRecDepth 100000 in
theorem ab_c125_ok : ab_ct 125 cX7_torn ab_c125 = true := by decide +kernel
set_option maxRecDepth 100000 in
theorem ab_c126_ok : ab_ct 126 cX7_count ab_c126 = true := by decide +kernel
set_option maxRecDepth 100000 in
theorem ab_c127_ok : ab_ct 127 cX7_countImages ab_c127 = true := by decide +kernel
set_option maxRecDepth 100000 in
theorem ab_c128_ok : ab_ct 128 cX7_giveCells ab_c128 = true := by decide +kernel
set_option maxRecDepth 100000 in
theorem ab_c129_ok : ab_ct 129 cX7_highestFigure ab_c129 = true := by decide +kernel
set_option maxRecDepth 100000 in
theorem ab_c130_ok : ab_ct 130 cX7_hasBit ab_c130 = true := by decide +kernel
set_option maxRecDepth 100000 in
theorem ab_c131_ok : ab_ct 131 cX7_bring ab_c131 = true := by decide +kernel
set_option maxRecDepth 100000 in
theorem ab_c132_ok : ab_ct 132 cX8_init ab_c132 = true := by decide +kernel
set_option maxRecDepth 100000 in
theorem ab_c133_ok : ab_ct 133 cX8_in ab_c133 = true := by decide +kernel
set_option maxRecDepth 100000 in
theorem ab_c134_ok : ab_ct 134 cX8_feed ab_c134 = true := by decide +kernel
set_option maxRecDepth 100000 in
theorem ab_c135_ok : ab_ct 135 cX8_end ab_c135 = true := by decide +kernel
set_option maxRecDepth 100000 in
theorem ab_c136_ok : ab_ct 136 cX8_byteAt ab_c136 = true := by decide +kernel
set_option maxRecDepth 100000 in
theorem ab_c137_ok : ab_ct 137 cX8_fails ab_c137 = true := by decide +kernel
set_option maxRecDepth 100000 in
theorem ab_c138_ok : ab_ct 138 cX8_nameHere ab_c138 = true := by decide +kernel
set_option maxRecDepth 100000 in
theorem ab_c139_ok : ab_ct 139 cX8_readsOn ab_c139 = true := by decide +kernel
set_option maxRecDepth 100000 in
theorem ab_c140_ok : ab_ct 140 cX8_numberRead ab_c140 = true := by decide +kernel
set_option maxRecDepth 100000 in
theorem ab_c141_ok : ab_ct 141 cX8_endsLine ab_c141 = true := by decide +kernel
set_option maxRecDepth 100000 in
theorem ab_c142_ok : ab_ct 142 cX8_operandsOf ab_c142 = true := by decide +kernel
set_option maxRecDepth 100000 in
theorem ab_c143_ok : ab_ct 143 cX8_readName ab_c143 = true := by decide +kernel
set_option maxRecDepth 100000 in
theorem ab_c144_ok : ab_ct 144 cX8_readEnd ab_c144 = true := by decide +kernel
set_option maxRecDepth 100000 in
theorem ab_c145_ok : ab_ct 145 cX8_readBlock ab_c145 = true := by decide +kernel
set_option maxRecDepth 100000 in
theorem ab_c146_ok : ab_ct 146 cX8_text ab_c146 = true := by decide +kernel
set_option maxRecDepth 100000 in
theorem ab_c147_ok : ab_ct 147 cX8_fault ab_c147 = true := by decide +kernel
set_option maxRecDepth 100000 in
theorem ab_c148_ok : ab_ct 148 cX8_copies ab_c148 = true := by decide +kernel
set_option maxRecDepth 100000 in
theorem ab_c149_ok : ab_ct 149 cX8_comesOn ab_c149 = true := by decide +kernel
set_option maxRecDepth 100000 in
theorem ab_c150_ok : ab_ct 150 cX8_shapesOn ab_c150 = true := by decide +kernel
set_option maxRecDepth 100000 in
theorem ab_c151_ok : ab_ct 151 cX8_isOver ab_c151 = true := by decide +kernel
set_option maxRecDepth 100000 in
theorem ab_c152_ok : ab_ct 152 cX8_isSeenOn ab_c152 = true := by decide +kernel
set_option maxRecDepth 100000 in
theorem ab_c153_ok : ab_ct 153 cX8_isSeenAtEnd ab_c153 = true := by decide +kernel
set_option maxRecDepth 100000 in
theorem ab_c154_ok : ab_ct 154 cX8_isSeenAsOperand ab_c154 = true := by decide +kernel
set_option maxRecDepth 100000 in
theorem ab_c155_ok : ab_ct 155 cX8_isBlockWhole ab_c155 = true := by decide +kernel
set_option maxRecDepth 100000 in
theorem ab_c156_ok : ab_ct 156 cX8_isNameWhole ab_c156 = true := by decide +kernel
set_option maxRecDepth 100000 in
theorem ab_c157_ok : ab_ct 157 cX8_isWhole ab_c157 = true := by decide +kernel
set_option maxRecDepth 100000 in
theorem ab_c158_ok : ab_ct 158 cX8_isBlock ab_c158 = true := by decide +kernel
set_option maxRecDepth 100000 in
theorem ab_c159_ok : ab_ct 159 cX8_isName ab_c159 = true := by decide +kernel
set_option maxRecDepth 100000 in
theorem ab_c160_ok : ab_ct 160 cX8_ofKind ab_c160 = true := by decide +kernel
set_option maxRecDepth 100000 in
theorem ab_c161_ok : ab_ct 161 cX8_uses ab_c161 = true := by decide +kernel
set_option maxRecDepth 100000 in
theorem ab_c162_ok : ab_ct 162 cX8_rule ab_c162 = true := by decide +kernel
set_option maxRecDepth 100000 in
theorem ab_c163_ok : ab_ct 163 cX8_nearest ab_c163 = true := by decide +kernel
set_option maxRecDepth 100000 in
theorem ab_c164_ok : ab_ct 164 cX8_block ab_c164 = true := by decide +kernel
