/-! the bytes decode to the codes -/
set_option maxRecDepth 100000 in
theorem ab_c74_ok : ab_ct 74 cX4_readName ab_c74 = true := by decide +kernel
set_option maxRecDepth 100000 in
theorem ab_c75_ok : ab_ct 75 cX4_readFigure ab_c75 = true := by decide +kernel
set_option maxRecDepth 100000 in
theorem ab_c76_ok : ab_ct 76 cX4_readOperands ab_c76 = true := by decide +kernel
set_option maxRecDepth 100000 in
theorem ab_c77_ok : ab_ct 77 cX4_readEnd ab_c77 = true := by decide +kernel
set_option maxRecDepth 100000 in
theorem ab_c78_ok : ab_ct 78 cX4_takeSemicolon ab_c78 = true := by decide +kernel
set_option maxRecDepth 100000 in
theorem ab_c79_ok : ab_ct 79 cX4_takeNumber ab_c79 = true := by decide +kernel
set_option maxRecDepth 100000 in
theorem ab_c80_ok : ab_ct 80 cX4_scan ab_c80 = true := by decide +kernel
set_option maxRecDepth 100000 in
theorem ab_c81_ok : ab_ct 81 cX4_scanToken ab_c81 = true := by decide +kernel
set_option maxRecDepth 100000 in
theorem ab_c82_ok : ab_ct 82 cX4_skip ab_c82 = true := by decide +kernel
set_option maxRecDepth 100000 in
theorem ab_c83_ok : ab_ct 83 cX4_figureFrom ab_c83 = true := by decide +kernel
set_option maxRecDepth 100000 in
theorem ab_c84_ok : ab_ct 84 cX4_wordFrom ab_c84 = true := by decide +kernel
set_option maxRecDepth 100000 in
theorem ab_c85_ok : ab_ct 85 cX4_isWord ab_c85 = true := by decide +kernel
set_option maxRecDepth 100000 in
theorem ab_c86_ok : ab_ct 86 cX5_init ab_c86 = true := by decide +kernel
set_option maxRecDepth 100000 in
theorem ab_c87_ok : ab_ct 87 cX7_fault ab_c87 = true := by decide +kernel
set_option maxRecDepth 100000 in
theorem ab_c88_ok : ab_ct 88 cX7_fault ab_c88 = true := by decide +kernel
set_option maxRecDepth 100000 in
theorem ab_c89_ok : ab_ct 89 cX7_fault ab_c89 = true := by decide +kernel
set_option maxRecDepth 100000 in
theorem ab_c90_ok : ab_ct 90 cX7_fault ab_c90 = true := by decide +kernel
set_option maxRecDepth 100000 in
theorem ab_c91_ok : ab_ct 91 cX7_fault ab_c91 = true := by decide +kernel
set_option maxRecDepth 100000 in
theorem ab_c92_ok : ab_ct 92 cX6_init ab_c92 = true := by decide +kernel
set_option maxRecDepth 100000 in
theorem ab_c93_ok : ab_ct 93 cX6_push ab_c93 = true := by decide +kernel
set_option maxRecDepth 100000 in
theorem ab_c94_ok : ab_ct 94 cX6_has ab_c94 = true := by decide +kernel
set_option maxRecDepth 100000 in
theorem ab_c95_ok : ab_ct 95 cX7_init ab_c95 = true := by decide +kernel
set_option maxRecDepth 100000 in
theorem ab_c96_ok : ab_ct 96 cX7_feed ab_c96 = true := by decide +kernel
set_option maxRecDepth 100000 in
theorem ab_c97_ok : ab_ct 97 cX7_fault ab_c97 = true := by decide +kernel
set_option maxRecDepth 100000 in
theorem ab_c98_ok : ab_ct 98 cX7_text ab_c98 = true := by decide +kernel
set_option maxRecDepth 100000 in
theorem ab_c99_ok : ab_ct 99 cX7_fault ab_c99 = true := by decide +kernel
set_option maxRecDepth 100000 in
theorem ab_c100_ok : ab_ct 100 cX7_rule ab_c100 = true := by decide +kernel
set_option maxRecDepth 100000 in
theorem ab_c101_ok : ab_ct 101 cX7_fault ab_c101 = true := by decide +kernel
set_option maxRecDepth 100000 in
theorem ab_c102_ok : ab_ct 102 cX7_fault ab_c102 = true := by decide +kernel
set_option maxRecDepth 100000 in
theorem ab_c103_ok : ab_ct 103 cX7_name ab_c103 = true := by decide +kernel
set_option maxRecDepth 100000 in
theorem ab_c104_ok : ab_ct 104 cX7_operand ab_c104 = true := by decide +kernel
set_option maxRecDepth 100000 in
theorem ab_c105_ok : ab_ct 105 cX7_seen ab_c105 = true := by decide +kernel
set_option maxRecDepth 100000 in
theorem ab_c106_ok : ab_ct 106 cX7_run ab_c106 = true := by decide +kernel
set_option maxRecDepth 100000 in
theorem ab_c107_ok : ab_ct 107 cX7_value ab_c107 = true := by decide +kernel
set_option maxRecDepth 100000 in
theorem ab_c108_ok : ab_ct 108 cX7_went ab_c108 = true := by decide +kernel
set_option maxRecDepth 100000 in
theorem ab_c109_ok : ab_ct 109 cX7_classes ab_c109 = true := by decide +kernel
set_option maxRecDepth 100000 in
theorem ab_c110_ok : ab_ct 110 cX7_part ab_c110 = true := by decide +kernel
