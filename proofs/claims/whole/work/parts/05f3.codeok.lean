set_option maxRecDepth 100000 in
theorem ab_c165_ok : ab_ct 165 cX8_pred ab_c165 = true := by decide +kernel
set_option maxRecDepth 100000 in
theorem ab_c166_ok : ab_ct 166 cX8_name ab_c166 = true := by decide +kernel
set_option maxRecDepth 100000 in
theorem ab_c167_ok : ab_ct 167 cX8_isOperand ab_c167 = true := by decide +kernel
set_option maxRecDepth 100000 in
theorem ab_c168_ok : ab_ct 168 cX8_operand ab_c168 = true := by decide +kernel
set_option maxRecDepth 100000 in
theorem ab_c169_ok : ab_ct 169 cX8_seen ab_c169 = true := by decide +kernel
set_option maxRecDepth 100000 in
theorem ab_c170_ok : ab_ct 170 cX8_brings ab_c170 = true := by decide +kernel
set_option maxRecDepth 100000 in
theorem ab_c171_ok : ab_ct 171 cX8_valueOf ab_c171 = true := by decide +kernel
set_option maxRecDepth 100000 in
theorem ab_c172_ok : ab_ct 172 cX8_compares ab_c172 = true := by decide +kernel
set_option maxRecDepth 100000 in
theorem ab_c173_ok : ab_ct 173 cX8_goesThrough ab_c173 = true := by decide +kernel
set_option maxRecDepth 100000 in
theorem ab_c174_ok : ab_ct 174 cX8_goes ab_c174 = true := by decide +kernel
set_option maxRecDepth 100000 in
theorem ab_c175_ok : ab_ct 175 cX8_runsNow ab_c175 = true := by decide +kernel
set_option maxRecDepth 100000 in
theorem ab_c176_ok : ab_ct 176 cX8_run ab_c176 = true := by decide +kernel
set_option maxRecDepth 100000 in
theorem ab_c177_ok : ab_ct 177 cX8_value ab_c177 = true := by decide +kernel
set_option maxRecDepth 100000 in
theorem ab_c178_ok : ab_ct 178 cX8_went ab_c178 = true := by decide +kernel
set_option maxRecDepth 100000 in
theorem ab_c179_ok : ab_ct 179 cX8_isAlikeFirst ab_c179 = true := by decide +kernel
set_option maxRecDepth 100000 in
theorem ab_c180_ok : ab_ct 180 cX8_isAlikeNext ab_c180 = true := by decide +kernel
set_option maxRecDepth 100000 in
theorem ab_c181_ok : ab_ct 181 cX8_splits ab_c181 = true := by decide +kernel
set_option maxRecDepth 100000 in
theorem ab_c182_ok : ab_ct 182 cX8_rounds ab_c182 = true := by decide +kernel
set_option maxRecDepth 100000 in
theorem ab_c183_ok : ab_ct 183 cX8_classes ab_c183 = true := by decide +kernel
set_option maxRecDepth 100000 in
theorem ab_c184_ok : ab_ct 184 cX8_part ab_c184 = true := by decide +kernel
set_option maxRecDepth 100000 in
theorem ab_c185_ok : ab_ct 185 cX8_partAt ab_c185 = true := by decide +kernel
set_option maxRecDepth 100000 in
theorem ab_c186_ok : ab_ct 186 cX8_isAmong ab_c186 = true := by decide +kernel
set_option maxRecDepth 100000 in
theorem ab_c187_ok : ab_ct 187 cX8_leaderOf ab_c187 = true := by decide +kernel
set_option maxRecDepth 100000 in
theorem ab_c188_ok : ab_ct 188 cX8_leader ab_c188 = true := by decide +kernel
set_option maxRecDepth 100000 in
theorem ab_c189_ok : ab_ct 189 cX8_isSameForm ab_c189 = true := by decide +kernel
set_option maxRecDepth 100000 in
theorem ab_c190_ok : ab_ct 190 cX8_isNumber ab_c190 = true := by decide +kernel
set_option maxRecDepth 100000 in
theorem ab_c191_ok : ab_ct 191 cX8_becomes ab_c191 = true := by decide +kernel
set_option maxRecDepth 100000 in
theorem ab_c192_ok : ab_ct 192 cX8_becomesAs ab_c192 = true := by decide +kernel
set_option maxRecDepth 100000 in
theorem ab_c193_ok : ab_ct 193 cX8_operandOf ab_c193 = true := by decide +kernel
set_option maxRecDepth 100000 in
theorem ab_c194_ok : ab_ct 194 cX8_isBehindAll ab_c194 = true := by decide +kernel
set_option maxRecDepth 100000 in
theorem ab_c195_ok : ab_ct 195 cX8_isOfOne ab_c195 = true := by decide +kernel
set_option maxRecDepth 100000 in
theorem ab_c196_ok : ab_ct 196 cX8_isFormAs ab_c196 = true := by decide +kernel
set_option maxRecDepth 100000 in
theorem ab_c197_ok : ab_ct 197 cX8_becomesFirst ab_c197 = true := by decide +kernel
set_option maxRecDepth 100000 in
theorem ab_c198_ok : ab_ct 198 cX8_formsNegative ab_c198 = true := by decide +kernel
set_option maxRecDepth 100000 in
theorem ab_c199_ok : ab_ct 199 cX8_formsPair ab_c199 = true := by decide +kernel
set_option maxRecDepth 100000 in
theorem ab_c200_ok : ab_ct 200 cX8_forms ab_c200 = true := by decide +kernel
set_option maxRecDepth 100000 in
theorem ab_c201_ok : ab_ct 201 cX8_form ab_c201 = true := by decide +kernel
set_option maxRecDepth 100000 in
theorem ab_c202_ok : ab_ct 202 cX8_number ab_c202 = true := by decide +kernel
set_option maxRecDepth 100000 in
theorem ab_c203_ok : ab_ct 203 cX8_replace ab_c203 = true := by decide +kernel
set_option maxRecDepth 100000 in
theorem ab_c204_ok : ab_ct 204 cX8_sweep ab_c204 = true := by decide +kernel
set_option maxRecDepth 100000 in
theorem ab_c205_ok : ab_ct 205 cX8_set ab_c205 = true := by decide +kernel
set_option maxRecDepth 100000 in
theorem ab_c206_ok : ab_ct 206 cX8_alter ab_c206 = true := by decide +kernel
set_option maxRecDepth 100000 in
theorem ab_c207_ok : ab_ct 207 cX8_agree ab_c207 = true := by decide +kernel
set_option maxRecDepth 100000 in
theorem ab_c208_ok : ab_ct 208 cX8_keep ab_c208 = true := by decide +kernel
set_option maxRecDepth 100000 in
theorem ab_c209_ok : ab_ct 209 cX8_back ab_c209 = true := by decide +kernel
set_option maxRecDepth 100000 in
theorem ab_c210_ok : ab_ct 210 cX8_sheet ab_c210 = true := by decide +kernel
set_option maxRecDepth 100000 in
theorem ab_c211_ok : ab_ct 211 cX8_lay ab_c211 = true := by decide +kernel
set_option maxRecDepth 100000 in
theorem ab_c212_ok : ab_ct 212 cX8_foundAt ab_c212 = true := by decide +kernel
set_option maxRecDepth 100000 in
theorem ab_c213_ok : ab_ct 213 cX8_read ab_c213 = true := by decide +kernel
set_option maxRecDepth 100000 in
theorem ab_c214_ok : ab_ct 214 cX8_torn ab_c214 = true := by decide +kernel
set_option maxRecDepth 100000 in
theorem ab_c215_ok : ab_ct 215 cX8_count ab_c215 = true := by decide +kernel
set_option maxRecDepth 100000 in
theorem ab_c216_ok : ab_ct 216 cJ6_bitCount_0f7a4 ab_c216 = true := by decide +kernel
