/-! LOOKUPS of the law -/
theorem own_132 : ab_own 132 = 10 := rfl
theorem rt_132 : ab_rt 132 = (some .int) := rfl
theorem np_132 : ab_np 132 = 2 := rfl
theorem mxl_132 : ab_mxl 132 = 2 := rfl
theorem ini_132 : ab_ini 132 = false := by decide +kernel
theorem own_133 : ab_own 133 = 10 := rfl
theorem rt_133 : ab_rt 133 = (some .int) := rfl
theorem np_133 : ab_np 133 = 2 := rfl
theorem mxl_133 : ab_mxl 133 = 2 := rfl
theorem ini_133 : ab_ini 133 = false := by decide +kernel
theorem own_134 : ab_own 134 = 10 := rfl
theorem rt_134 : ab_rt 134 = none := rfl
theorem np_134 : ab_np 134 = 3 := rfl
theorem mxl_134 : ab_mxl 134 = 3 := rfl
theorem ini_134 : ab_ini 134 = false := by decide +kernel
theorem own_135 : ab_own 135 = 10 := rfl
theorem rt_135 : ab_rt 135 = none := rfl
theorem np_135 : ab_np 135 = 3 := rfl
theorem mxl_135 : ab_mxl 135 = 6 := rfl
theorem ini_135 : ab_ini 135 = false := by decide +kernel
theorem own_136 : ab_own 136 = 10 := rfl
theorem rt_136 : ab_rt 136 = none := rfl
theorem np_136 : ab_np 136 = 3 := rfl
theorem mxl_136 : ab_mxl 136 = 3 := rfl
theorem ini_136 : ab_ini 136 = false := by decide +kernel
theorem own_137 : ab_own 137 = 10 := rfl
theorem rt_137 : ab_rt 137 = (some .int) := rfl
theorem np_137 : ab_np 137 = 2 := rfl
theorem mxl_137 : ab_mxl 137 = 2 := rfl
theorem ini_137 : ab_ini 137 = false := by decide +kernel
theorem own_138 : ab_own 138 = 10 := rfl
theorem rt_138 : ab_rt 138 = none := rfl
theorem np_138 : ab_np 138 = 3 := rfl
theorem mxl_138 : ab_mxl 138 = 3 := rfl
theorem ini_138 : ab_ini 138 = false := by decide +kernel
theorem own_139 : ab_own 139 = 10 := rfl
theorem rt_139 : ab_rt 139 = (some .int) := rfl
theorem np_139 : ab_np 139 = 3 := rfl
theorem mxl_139 : ab_mxl 139 = 3 := rfl
theorem ini_139 : ab_ini 139 = false := by decide +kernel
theorem own_140 : ab_own 140 = 10 := rfl
theorem rt_140 : ab_rt 140 = (some .boolean) := rfl
theorem np_140 : ab_np 140 = 3 := rfl
theorem mxl_140 : ab_mxl 140 = 3 := rfl
theorem ini_140 : ab_ini 140 = false := by decide +kernel
theorem own_141 : ab_own 141 = 10 := rfl
theorem rt_141 : ab_rt 141 = (some .boolean) := rfl
theorem np_141 : ab_np 141 = 4 := rfl
theorem mxl_141 : ab_mxl 141 = 4 := rfl
theorem ini_141 : ab_ini 141 = false := by decide +kernel
theorem own_142 : ab_own 142 = 10 := rfl
theorem rt_142 : ab_rt 142 = (some .boolean) := rfl
theorem np_142 : ab_np 142 = 6 := rfl
theorem mxl_142 : ab_mxl 142 = 6 := rfl
theorem ini_142 : ab_ini 142 = false := by decide +kernel
theorem own_143 : ab_own 143 = 10 := rfl
theorem rt_143 : ab_rt 143 = (some .int) := rfl
theorem np_143 : ab_np 143 = 6 := rfl
theorem mxl_143 : ab_mxl 143 = 9 := rfl
theorem ini_143 : ab_ini 143 = false := by decide +kernel
theorem own_144 : ab_own 144 = 10 := rfl
theorem rt_144 : ab_rt 144 = (some .int) := rfl
theorem np_144 : ab_np 144 = 4 := rfl
theorem mxl_144 : ab_mxl 144 = 7 := rfl
theorem ini_144 : ab_ini 144 = false := by decide +kernel
theorem own_145 : ab_own 145 = 10 := rfl
theorem rt_145 : ab_rt 145 = (some .boolean) := rfl
theorem np_145 : ab_np 145 = 9 := rfl
theorem mxl_145 : ab_mxl 145 = 16 := rfl
theorem ini_145 : ab_ini 145 = false := by decide +kernel
theorem ml_10_9 : ab_ml 10 9 = some (96, 0) := by decide +kernel
theorem ml_10_15 : ab_ml 10 15 = some (134, 1) := by decide +kernel
theorem ml_10_21 : ab_ml 10 21 = some (98, 0) := by decide +kernel
theorem ml_10_49 : ab_ml 10 49 = some (135, 1) := by decide +kernel
theorem ml_10_53 : ab_ml 10 53 = some (139, 1) := by decide +kernel
theorem ml_10_57 : ab_ml 10 57 = some (140, 1) := by decide +kernel
theorem ml_10_61 : ab_ml 10 61 = some (141, 1) := by decide +kernel
theorem ml_10_65 : ab_ml 10 65 = some (142, 1) := by decide +kernel
theorem ml_10_69 : ab_ml 10 69 = some (132, 1) := by decide +kernel
theorem ml_10_73 : ab_ml 10 73 = some (133, 1) := by decide +kernel
theorem ml_10_77 : ab_ml 10 77 = some (143, 1) := by decide +kernel
theorem ml_10_81 : ab_ml 10 81 = some (144, 1) := by decide +kernel
theorem ml_10_85 : ab_ml 10 85 = some (138, 1) := by decide +kernel
theorem ml_10_88 : ab_ml 10 88 = some (136, 1) := by decide +kernel
theorem ml_10_91 : ab_ml 10 91 = some (137, 1) := by decide +kernel
theorem ml_10_95 : ab_ml 10 95 = some (99, 0) := by decide +kernel
theorem ml_10_119 : ab_ml 10 119 = some (103, 0) := by decide +kernel
theorem ml_10_121 : ab_ml 10 121 = some (104, 0) := by decide +kernel
theorem ml_10_127 : ab_ml 10 127 = some (100, 0) := by decide +kernel
theorem ml_10_133 : ab_ml 10 133 = some (95, 3) := by decide +kernel
theorem ml_10_134 : ab_ml 10 134 = some (145, 1) := by decide +kernel
theorem ml_10_138 : ab_ml 10 138 = some (120, 0) := by decide +kernel
theorem ml_10_141 : ab_ml 10 141 = some (109, 0) := by decide +kernel
theorem ml_10_144 : ab_ml 10 144 = some (110, 0) := by decide +kernel
theorem ml_10_146 : ab_ml 10 146 = some (111, 0) := by decide +kernel
theorem ml_10_149 : ab_ml 10 149 = some (112, 0) := by decide +kernel
theorem ml_10_152 : ab_ml 10 152 = some (105, 0) := by decide +kernel
theorem ml_10_154 : ab_ml 10 154 = some (113, 0) := by decide +kernel
theorem ml_10_157 : ab_ml 10 157 = some (114, 0) := by decide +kernel
theorem ml_10_160 : ab_ml 10 160 = some (119, 0) := by decide +kernel
theorem ml_10_164 : ab_ml 10 164 = some (106, 0) := by decide +kernel
theorem ml_10_168 : ab_ml 10 168 = some (108, 0) := by decide +kernel
theorem ml_10_171 : ab_ml 10 171 = some (107, 0) := by decide +kernel
theorem ml_10_174 : ab_ml 10 174 = some (115, 0) := by decide +kernel
theorem ml_10_177 : ab_ml 10 177 = some (116, 0) := by decide +kernel
theorem ml_10_180 : ab_ml 10 180 = some (121, 0) := by decide +kernel
theorem ml_10_183 : ab_ml 10 183 = some (117, 0) := by decide +kernel
theorem ml_10_186 : ab_ml 10 186 = some (118, 0) := by decide +kernel
theorem kI_10_7 : ab_kI 10 7 = some (2147483647) := by decide +kernel
theorem kI_10_8 : ab_kI 10 8 = some (2654435) := by decide +kernel
theorem kL_10_25 : ab_kL 10 25 = some (7239021) := by decide +kernel
theorem kL_10_27 : ab_kL 10 27 = some (6386279) := by decide +kernel
theorem kL_10_29 : ab_kL 10 29 = some (6382692) := by decide +kernel
theorem kL_10_31 : ab_kL 10 31 = some (7173484) := by decide +kernel
theorem kL_10_33 : ab_kL 10 33 = some (7234919) := by decide +kernel
theorem kL_10_35 : ab_kL 10 35 = some (1818588019) := by decide +kernel
theorem kL_10_37 : ab_kL 10 37 = some (6580598) := by decide +kernel
theorem kL_10_39 : ab_kL 10 39 = some (7366761) := by decide +kernel
theorem kL_10_41 : ab_kL 10 41 = some (422726034283) := by decide +kernel
theorem kL_10_43 : ab_kL 10 43 = some (1735357551) := by decide +kernel
theorem kL_10_45 : ab_kL 10 45 = some (26982) := by decide +kernel
theorem kL_10_47 : ab_kL 10 47 = some (7497076) := by decide +kernel
theorem kL_10_100 : ab_kL 10 100 = some (2000000000000) := by decide +kernel
theorem nw_10_10 : ab_nw 10 10 = some 7 := by decide +kernel
