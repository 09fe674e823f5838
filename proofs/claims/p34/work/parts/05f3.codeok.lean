/-! the bytes decode to the codes -/
set_option maxRecDepth 100000 in
theorem ab_c111_ok : ab_ct 111 cX7_partAt ab_c111 = true := by decide +kernel
set_option maxRecDepth 100000 in
theorem ab_c112_ok : ab_ct 112 cX7_leader ab_c112 = true := by decide +kernel
set_option maxRecDepth 100000 in
theorem ab_c113_ok : ab_ct 113 cX7_form ab_c113 = true := by decide +kernel
set_option maxRecDepth 100000 in
theorem ab_c114_ok : ab_ct 114 cX7_number ab_c114 = true := by decide +kernel
set_option maxRecDepth 100000 in
theorem ab_c115_ok : ab_ct 115 cX7_replace ab_c115 = true := by decide +kernel
set_option maxRecDepth 100000 in
theorem ab_c116_ok : ab_ct 116 cX7_sweep ab_c116 = true := by decide +kernel
set_option maxRecDepth 100000 in
theorem ab_c117_ok : ab_ct 117 cX7_set ab_c117 = true := by decide +kernel
set_option maxRecDepth 100000 in
theorem ab_c118_ok : ab_ct 118 cX7_alter ab_c118 = true := by decide +kernel
set_option maxRecDepth 100000 in
theorem ab_c119_ok : ab_ct 119 cX7_agree ab_c119 = true := by decide +kernel
set_option maxRecDepth 100000 in
theorem ab_c120_ok : ab_ct 120 cX7_keep ab_c120 = true := by decide +kernel
set_option maxRecDepth 100000 in
theorem ab_c121_ok : ab_ct 121 cX7_back ab_c121 = true := by decide +kernel
set_option maxRecDepth 100000 in
theorem ab_c122_ok : ab_ct 122 cX7_fault ab_c122 = true := by decide +kernel
set_option maxRecDepth 100000 in
theorem ab_c123_ok : ab_ct 123 cX7_fault ab_c123 = true := by decide +kernel
set_option maxRecDepth 100000 in
theorem ab_c124_ok : ab_ct 124 cX7_fault ab_c124 = true := by decide +kernel
set_option maxRecDepth 100000 in
theorem ab_c125_ok : ab_ct 125 cX7_fault ab_c125 = true := by decide +kernel
set_option maxRecDepth 100000 in
theorem ab_c126_ok : ab_ct 126 cX7_fault ab_c126 = true := by decide +kernel
set_option maxRecDepth 100000 in
theorem ab_c127_ok : ab_ct 127 cX7_fault ab_c127 = true := by decide +kernel
set_option maxRecDepth 100000 in
theorem ab_c128_ok : ab_ct 128 cX7_fault ab_c128 = true := by decide +kernel
set_option maxRecDepth 100000 in
theorem ab_c129_ok : ab_ct 129 cX7_highestFigure ab_c129 = true := by decide +kernel
set_option maxRecDepth 100000 in
theorem ab_c130_ok : ab_ct 130 cX7_hasBit ab_c130 = true := by decide +kernel
set_option maxRecDepth 100000 in
theorem ab_c131_ok : ab_ct 131 cX7_bring ab_c131 = true := by decide +kernel
set_option maxRecDepth 100000 in
theorem ab_c132_ok : ab_ct 132 cL_part ab_c132 = true := by decide +kernel
set_option maxRecDepth 100000 in
theorem ab_c133_ok : ab_ct 133 cL_cell ab_c133 = true := by decide +kernel
set_option maxRecDepth 100000 in
theorem ab_c134_ok : ab_ct 134 cL_says ab_c134 = true := by decide +kernel
set_option maxRecDepth 100000 in
theorem ab_c135_ok : ab_ct 135 cL_name ab_c135 = true := by decide +kernel
set_option maxRecDepth 100000 in
theorem ab_c136_ok : ab_ct 136 cL_number ab_c136 = true := by decide +kernel
set_option maxRecDepth 100000 in
theorem ab_c137_ok : ab_ct 137 cL_ends ab_c137 = true := by decide +kernel
set_option maxRecDepth 100000 in
theorem ab_c138_ok : ab_ct 138 cL_line ab_c138 = true := by decide +kernel
set_option maxRecDepth 100000 in
theorem ab_c139_ok : ab_ct 139 cL_shape ab_c139 = true := by decide +kernel
set_option maxRecDepth 100000 in
theorem ab_c140_ok : ab_ct 140 cL_over ab_c140 = true := by decide +kernel
set_option maxRecDepth 100000 in
theorem ab_c141_ok : ab_ct 141 cL_seen ab_c141 = true := by decide +kernel
set_option maxRecDepth 100000 in
theorem ab_c142_ok : ab_ct 142 cL_may ab_c142 = true := by decide +kernel
set_option maxRecDepth 100000 in
theorem ab_c143_ok : ab_ct 143 cL_pick ab_c143 = true := by decide +kernel
set_option maxRecDepth 100000 in
theorem ab_c144_ok : ab_ct 144 cL_atEnd ab_c144 = true := by decide +kernel
set_option maxRecDepth 100000 in
theorem ab_c145_ok : ab_ct 145 cL_program ab_c145 = true := by decide +kernel
