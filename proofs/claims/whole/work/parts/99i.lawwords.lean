theorem wl_ini : Cond.initialized RL ∈ lw_g := lw_mem 103 (by decide +kernel) (by decide +kernel)
theorem wl_c13 : Cond.classLink RL 13 iaN ∈ lw_g := lw_mem 780 (by decide +kernel) (by decide +kernel)
theorem wl_c18 : Cond.classLink RL 18 nsN ∈ lw_g := lw_mem 1073 (by decide +kernel) (by decide +kernel)
abbrev wd_town : WMD := (yL_town, cL_town, 4, [(0, 9, 12, 13)], 1)
set_option maxRecDepth 20000 in
theorem wl_k_town : Cond.codeWith yL_town cL_town 4 (some .int) [(0, 9, 12, 13)] ∈ lw_g := lw_mem 779 rfl rfl
theorem wl_s_town : Cond.static yL_town ∈ lw_g := lw_mem 778 (by decide +kernel) (by decide +kernel)
abbrev wd_count : WMD := (yL_count, cL_count, 4, [(0, 9, 12, 18)], 1)
set_option maxRecDepth 20000 in
theorem wl_k_count : Cond.codeWith yL_count cL_count 4 (some .int) [(0, 9, 12, 18)] ∈ lw_g := lw_mem 1072 rfl rfl
theorem wl_s_count : Cond.static yL_count ∈ lw_g := lw_mem 1071 (by decide +kernel) (by decide +kernel)
abbrev wd_person : WMD := (yL_person, cL_person, 5, [(0, 10, 13, 18)], 2)
set_option maxRecDepth 20000 in
theorem wl_k_person : Cond.codeWith yL_person cL_person 5 (some .int) [(0, 10, 13, 18)] ∈ lw_g := lw_mem 1101 rfl rfl
theorem wl_s_person : Cond.static yL_person ∈ lw_g := lw_mem 1100 (by decide +kernel) (by decide +kernel)
abbrev wd_feud : WMD := (yL_feud, cL_feud, 5, [(0, 10, 13, 18)], 2)
set_option maxRecDepth 20000 in
theorem wl_k_feud : Cond.codeWith yL_feud cL_feud 5 (some .int) [(0, 10, 13, 18)] ∈ lw_g := lw_mem 1119 rfl rfl
theorem wl_s_feud : Cond.static yL_feud ∈ lw_g := lw_mem 1118 (by decide +kernel) (by decide +kernel)
abbrev wd_sign : WMD := (yL_sign, cL_sign, 5, [(0, 10, 13, 18)], 2)
set_option maxRecDepth 20000 in
theorem wl_k_sign : Cond.codeWith yL_sign cL_sign 5 (some .int) [(0, 10, 13, 18)] ∈ lw_g := lw_mem 1131 rfl rfl
theorem wl_s_sign : Cond.static yL_sign ∈ lw_g := lw_mem 1130 (by decide +kernel) (by decide +kernel)
abbrev wd_other : WMD := (yL_other, cL_other, 4, [(0, 9, 12, 18)], 1)
set_option maxRecDepth 20000 in
theorem wl_k_other : Cond.codeWith yL_other cL_other 4 (some .int) [(0, 9, 12, 18)] ∈ lw_g := lw_mem 1139 rfl rfl
theorem wl_s_other : Cond.static yL_other ∈ lw_g := lw_mem 1138 (by decide +kernel) (by decide +kernel)
abbrev wd_away : WMD := (yL_away, cL_away, 5, [(0, 17, 20, 18)], 1)
set_option maxRecDepth 20000 in
theorem wl_k_away : Cond.codeWith yL_away cL_away 5 (some .int) [(0, 17, 20, 18)] ∈ lw_g := lw_mem 1146 rfl rfl
theorem wl_s_away : Cond.static yL_away ∈ lw_g := lw_mem 1145 (by decide +kernel) (by decide +kernel)
abbrev wd_dies : WMD := (yL_dies, cL_dies, 4, [(0, 16, 19, 18)], 1)
set_option maxRecDepth 20000 in
theorem wl_k_dies : Cond.codeWith yL_dies cL_dies 4 (some .int) [(0, 16, 19, 18)] ∈ lw_g := lw_mem 1153 rfl rfl
theorem wl_s_dies : Cond.static yL_dies ∈ lw_g := lw_mem 1152 (by decide +kernel) (by decide +kernel)
abbrev wd_marry : WMD := (yL_marry, cL_marry, 5, [(0, 10, 13, 18)], 2)
set_option maxRecDepth 20000 in
theorem wl_k_marry : Cond.codeWith yL_marry cL_marry 5 (some .int) [(0, 10, 13, 18)] ∈ lw_g := lw_mem 1160 rfl rfl
theorem wl_s_marry : Cond.static yL_marry ∈ lw_g := lw_mem 1159 (by decide +kernel) (by decide +kernel)
abbrev wd_quarrel : WMD := (yL_quarrel, cL_quarrel, 5, [(0, 10, 13, 18)], 2)
set_option maxRecDepth 20000 in
theorem wl_k_quarrel : Cond.codeWith yL_quarrel cL_quarrel 5 (some .int) [(0, 10, 13, 18)] ∈ lw_g := lw_mem 1167 rfl rfl
theorem wl_s_quarrel : Cond.static yL_quarrel ∈ lw_g := lw_mem 1166 (by decide +kernel) (by decide +kernel)
abbrev wd_found : WMD := (yL_found, cL_found, 6, [(0, 12, 15, 18), (0, 12, 19, 13)], 2)
set_option maxRecDepth 20000 in
theorem wl_k_found : Cond.codeWith yL_found cL_found 6 (some .int) [(0, 12, 15, 18), (0, 12, 19, 13)] ∈ lw_g := lw_mem 1176 rfl rfl
theorem wl_s_found : Cond.static yL_found ∈ lw_g := lw_mem 1175 (by decide +kernel) (by decide +kernel)
abbrev wd_again : WMD := (yL_again, cL_again, 4, [(0, 9, 12, 18)], 1)
set_option maxRecDepth 20000 in
theorem wl_k_again : Cond.codeWith yL_again cL_again 4 (some .int) [(0, 9, 12, 18)] ∈ lw_g := lw_mem 1198 rfl rfl
theorem wl_s_again : Cond.static yL_again ∈ lw_g := lw_mem 1197 (by decide +kernel) (by decide +kernel)
abbrev wd_interval : WMD := (yL_interval, cL_interval, 4, [(0, 9, 12, 13)], 1)
set_option maxRecDepth 20000 in
theorem wl_k_interval : Cond.codeWith yL_interval cL_interval 4 (some .int) [(0, 9, 12, 13)] ∈ lw_g := lw_mem 1209 rfl rfl
theorem wl_s_interval : Cond.static yL_interval ∈ lw_g := lw_mem 1208 (by decide +kernel) (by decide +kernel)
abbrev wd_own : WMD := (yL_own, cL_own, 5, [(0, 10, 13, 18)], 2)
set_option maxRecDepth 20000 in
theorem wl_k_own : Cond.codeWith yL_own cL_own 5 (some .int) [(0, 10, 13, 18)] ∈ lw_g := lw_mem 1217 rfl rfl
theorem wl_s_own : Cond.static yL_own ∈ lw_g := lw_mem 1216 (by decide +kernel) (by decide +kernel)
abbrev wd_breath : WMD := (yL_breath, cL_breath, 4, [(0, 9, 12, 18)], 1)
set_option maxRecDepth 20000 in
theorem wl_k_breath : Cond.codeWith yL_breath cL_breath 4 (some .int) [(0, 9, 12, 18)] ∈ lw_g := lw_mem 1225 rfl rfl
theorem wl_s_breath : Cond.static yL_breath ∈ lw_g := lw_mem 1224 (by decide +kernel) (by decide +kernel)
abbrev wd_like : WMD := (yL_like, cL_like, 4, [(0, 9, 12, 18)], 1)
set_option maxRecDepth 20000 in
theorem wl_k_like : Cond.codeWith yL_like cL_like 4 (some .int) [(0, 9, 12, 18)] ∈ lw_g := lw_mem 1232 rfl rfl
theorem wl_s_like : Cond.static yL_like ∈ lw_g := lw_mem 1231 (by decide +kernel) (by decide +kernel)
abbrev wd_then : WMD := (yL_then, cL_then, 4, [(0, 9, 12, 13)], 1)
set_option maxRecDepth 20000 in
theorem wl_k_then : Cond.codeWith yL_then cL_then 4 (some .int) [(0, 9, 12, 13)] ∈ lw_g := lw_mem 1245 rfl rfl
theorem wl_s_then : Cond.static yL_then ∈ lw_g := lw_mem 1244 (by decide +kernel) (by decide +kernel)
abbrev wd_when : WMD := (yL_when, cL_when, 5, [(0, 10, 13, 13)], 1)
set_option maxRecDepth 20000 in
theorem wl_k_when : Cond.codeWith yL_when cL_when 5 (some .int) [(0, 10, 13, 13)] ∈ lw_g := lw_mem 1257 rfl rfl
theorem wl_s_when : Cond.static yL_when ∈ lw_g := lw_mem 1256 (by decide +kernel) (by decide +kernel)
abbrev wd_quiet : WMD := (yL_quiet, cL_quiet, 4, [(0, 9, 12, 13)], 1)
set_option maxRecDepth 20000 in
theorem wl_k_quiet : Cond.codeWith yL_quiet cL_quiet 4 (some .int) [(0, 9, 12, 13)] ∈ lw_g := lw_mem 1264 rfl rfl
theorem wl_s_quiet : Cond.static yL_quiet ∈ lw_g := lw_mem 1263 (by decide +kernel) (by decide +kernel)
abbrev wd_spy : WMD := (yL_spy, cL_spy, 4, [(0, 9, 12, 18)], 1)
set_option maxRecDepth 20000 in
theorem wl_k_spy : Cond.codeWith yL_spy cL_spy 4 (some .int) [(0, 9, 12, 18)] ∈ lw_g := lw_mem 1276 rfl rfl
theorem wl_s_spy : Cond.static yL_spy ∈ lw_g := lw_mem 1275 (by decide +kernel) (by decide +kernel)
abbrev wd_listen : WMD := (yL_listen, cL_listen, 4, [(0, 9, 12, 18)], 1)
set_option maxRecDepth 20000 in
theorem wl_k_listen : Cond.codeWith yL_listen cL_listen 4 (some .int) [(0, 9, 12, 18)] ∈ lw_g := lw_mem 1296 rfl rfl
theorem wl_s_listen : Cond.static yL_listen ∈ lw_g := lw_mem 1295 (by decide +kernel) (by decide +kernel)
abbrev wd_game : WMD := (yL_game, cL_game, 6, [(0, 12, 15, 18), (0, 12, 19, 13)], 2)
set_option maxRecDepth 20000 in
theorem wl_k_game : Cond.codeWith yL_game cL_game 6 (some .int) [(0, 12, 15, 18), (0, 12, 19, 13)] ∈ lw_g := lw_mem 1308 rfl rfl
theorem wl_s_game : Cond.static yL_game ∈ lw_g := lw_mem 1307 (by decide +kernel) (by decide +kernel)
abbrev wd_century : WMD := (yL_century, cL_century, 6, [(0, 12, 15, 18), (0, 12, 19, 13)], 2)
set_option maxRecDepth 20000 in
theorem wl_k_century : Cond.codeWith yL_century cL_century 6 (some .int) [(0, 12, 15, 18), (0, 12, 19, 13)] ∈ lw_g := lw_mem 1348 rfl rfl
theorem wl_s_century : Cond.static yL_century ∈ lw_g := lw_mem 1347 (by decide +kernel) (by decide +kernel)
theorem ll_7 : Cond.methodLink RL 7 yX11_town ∈ lw_g := lw_mem 781 (by decide +kernel) (by decide +kernel)
theorem ll_15 : Cond.methodLink RL 15 yX11_count ∈ lw_g := lw_mem 1074 (by decide +kernel) (by decide +kernel)
theorem ll_20 : Cond.methodLink RL 20 yX11_person ∈ lw_g := lw_mem 1102 (by decide +kernel) (by decide +kernel)
theorem ll_24 : Cond.methodLink RL 24 yX11_feud ∈ lw_g := lw_mem 1120 (by decide +kernel) (by decide +kernel)
theorem ll_27 : Cond.methodLink RL 27 yX11_sign ∈ lw_g := lw_mem 1132 (by decide +kernel) (by decide +kernel)
theorem ll_30 : Cond.methodLink RL 30 yX11_other ∈ lw_g := lw_mem 1140 (by decide +kernel) (by decide +kernel)
theorem ll_33 : Cond.methodLink RL 33 yX11_away ∈ lw_g := lw_mem 1147 (by decide +kernel) (by decide +kernel)
theorem ll_37 : Cond.methodLink RL 37 yX11_dies ∈ lw_g := lw_mem 1154 (by decide +kernel) (by decide +kernel)
theorem ll_41 : Cond.methodLink RL 41 yX11_marry ∈ lw_g := lw_mem 1161 (by decide +kernel) (by decide +kernel)
theorem ll_44 : Cond.methodLink RL 44 yX11_quarrel ∈ lw_g := lw_mem 1168 (by decide +kernel) (by decide +kernel)
theorem ll_47 : Cond.methodLink RL 47 yX11_found ∈ lw_g := lw_mem 1177 (by decide +kernel) (by decide +kernel)
theorem ll_51 : Cond.methodLink RL 51 yX11_again ∈ lw_g := lw_mem 1199 (by decide +kernel) (by decide +kernel)
theorem ll_54 : Cond.methodLink RL 54 yX11_interval ∈ lw_g := lw_mem 1210 (by decide +kernel) (by decide +kernel)
theorem ll_57 : Cond.methodLink RL 57 yX11_own ∈ lw_g := lw_mem 1218 (by decide +kernel) (by decide +kernel)
theorem ll_60 : Cond.methodLink RL 60 yX11_breath ∈ lw_g := lw_mem 1226 (by decide +kernel) (by decide +kernel)
theorem ll_63 : Cond.methodLink RL 63 yX11_like ∈ lw_g := lw_mem 1233 (by decide +kernel) (by decide +kernel)
theorem ll_66 : Cond.methodLink RL 66 yX11_then ∈ lw_g := lw_mem 1246 (by decide +kernel) (by decide +kernel)
theorem ll_69 : Cond.methodLink RL 69 yX11_when ∈ lw_g := lw_mem 1258 (by decide +kernel) (by decide +kernel)
theorem ll_72 : Cond.methodLink RL 72 yX11_quiet ∈ lw_g := lw_mem 1265 (by decide +kernel) (by decide +kernel)
theorem ll_75 : Cond.methodLink RL 75 yX11_spy ∈ lw_g := lw_mem 1277 (by decide +kernel) (by decide +kernel)
theorem ll_78 : Cond.methodLink RL 78 yX11_listen ∈ lw_g := lw_mem 1297 (by decide +kernel) (by decide +kernel)
theorem ll_81 : Cond.methodLink RL 81 yX11_game ∈ lw_g := lw_mem 1309 (by decide +kernel) (by decide +kernel)
theorem ll_84 : Cond.methodLink RL 84 yX11_century ∈ lw_g := lw_mem 1349 (by decide +kernel) (by decide +kernel)
theorem ll_87 : Cond.methodLink RL 87 yX11_init ∈ lw_g := lw_mem 131 (by decide +kernel) (by decide +kernel)
theorem ll_90 : Cond.methodLink RL 90 yX12_init ∈ lw_g := lw_mem 1366 (by decide +kernel) (by decide +kernel)
theorem ll_91 : Cond.methodLink RL 91 yX11_feed ∈ lw_g := lw_mem 538 (by decide +kernel) (by decide +kernel)
theorem ll_95 : Cond.methodLink RL 95 yX12_feed ∈ lw_g := lw_mem 1595 (by decide +kernel) (by decide +kernel)
theorem ll_96 : Cond.methodLink RL 96 yL_town ∈ lw_g := lw_mem 777 (by decide +kernel) (by decide +kernel)
theorem ll_101 : Cond.methodLink RL 101 yX12_town ∈ lw_g := lw_mem 1599 (by decide +kernel) (by decide +kernel)
theorem ll_102 : Cond.methodLink RL 102 yX12_thrown ∈ lw_g := lw_mem 1591 (by decide +kernel) (by decide +kernel)
theorem ll_106 : Cond.methodLink RL 106 yX11_fault ∈ lw_g := lw_mem 546 (by decide +kernel) (by decide +kernel)
theorem ll_109 : Cond.methodLink RL 109 yX12_fault ∈ lw_g := lw_mem 1725 (by decide +kernel) (by decide +kernel)
theorem ll_110 : Cond.methodLink RL 110 yL_count ∈ lw_g := lw_mem 1070 (by decide +kernel) (by decide +kernel)
theorem ll_112 : Cond.methodLink RL 112 yX12_count ∈ lw_g := lw_mem 1729 (by decide +kernel) (by decide +kernel)
theorem ll_113 : Cond.methodLink RL 113 yL_person ∈ lw_g := lw_mem 1099 (by decide +kernel) (by decide +kernel)
theorem ll_116 : Cond.methodLink RL 116 yX12_person ∈ lw_g := lw_mem 1737 (by decide +kernel) (by decide +kernel)
theorem ll_117 : Cond.methodLink RL 117 yL_feud ∈ lw_g := lw_mem 1117 (by decide +kernel) (by decide +kernel)
theorem ll_119 : Cond.methodLink RL 119 yX12_feud ∈ lw_g := lw_mem 1752 (by decide +kernel) (by decide +kernel)
theorem ll_120 : Cond.methodLink RL 120 yL_sign ∈ lw_g := lw_mem 1129 (by decide +kernel) (by decide +kernel)
theorem ll_122 : Cond.methodLink RL 122 yX12_sign ∈ lw_g := lw_mem 1756 (by decide +kernel) (by decide +kernel)
theorem ll_123 : Cond.methodLink RL 123 yL_other ∈ lw_g := lw_mem 1137 (by decide +kernel) (by decide +kernel)
theorem ll_125 : Cond.methodLink RL 125 yX12_other ∈ lw_g := lw_mem 1761 (by decide +kernel) (by decide +kernel)
theorem ll_126 : Cond.methodLink RL 126 yX11_years ∈ lw_g := lw_mem 550 (by decide +kernel) (by decide +kernel)
theorem ll_129 : Cond.methodLink RL 129 yX12_years ∈ lw_g := lw_mem 1765 (by decide +kernel) (by decide +kernel)
theorem ll_130 : Cond.methodLink RL 130 yL_away ∈ lw_g := lw_mem 1144 (by decide +kernel) (by decide +kernel)
theorem ll_133 : Cond.methodLink RL 133 yX12_away ∈ lw_g := lw_mem 1819 (by decide +kernel) (by decide +kernel)
theorem ll_134 : Cond.methodLink RL 134 yL_dies ∈ lw_g := lw_mem 1151 (by decide +kernel) (by decide +kernel)
theorem ll_136 : Cond.methodLink RL 136 yX12_dies ∈ lw_g := lw_mem 1831 (by decide +kernel) (by decide +kernel)
theorem ll_137 : Cond.methodLink RL 137 yL_marry ∈ lw_g := lw_mem 1158 (by decide +kernel) (by decide +kernel)
theorem ll_139 : Cond.methodLink RL 139 yX12_marry ∈ lw_g := lw_mem 1835 (by decide +kernel) (by decide +kernel)
theorem ll_140 : Cond.methodLink RL 140 yL_quarrel ∈ lw_g := lw_mem 1165 (by decide +kernel) (by decide +kernel)
theorem ll_142 : Cond.methodLink RL 142 yX12_quarrel ∈ lw_g := lw_mem 1847 (by decide +kernel) (by decide +kernel)
theorem ll_143 : Cond.methodLink RL 143 yX11_peace ∈ lw_g := lw_mem 598 (by decide +kernel) (by decide +kernel)
theorem ll_146 : Cond.methodLink RL 146 yX12_peace ∈ lw_g := lw_mem 1851 (by decide +kernel) (by decide +kernel)
theorem ll_147 : Cond.methodLink RL 147 yX11_undo ∈ lw_g := lw_mem 611 (by decide +kernel) (by decide +kernel)
theorem ll_150 : Cond.methodLink RL 150 yX12_undo ∈ lw_g := lw_mem 1855 (by decide +kernel) (by decide +kernel)
theorem ll_151 : Cond.methodLink RL 151 yL_found ∈ lw_g := lw_mem 1174 (by decide +kernel) (by decide +kernel)
theorem ll_154 : Cond.methodLink RL 154 yX12_found ∈ lw_g := lw_mem 1863 (by decide +kernel) (by decide +kernel)
theorem ll_155 : Cond.methodLink RL 155 yL_again ∈ lw_g := lw_mem 1196 (by decide +kernel) (by decide +kernel)
theorem ll_157 : Cond.methodLink RL 157 yX12_again ∈ lw_g := lw_mem 1880 (by decide +kernel) (by decide +kernel)
theorem ll_158 : Cond.methodLink RL 158 yX11_tritones ∈ lw_g := lw_mem 652 (by decide +kernel) (by decide +kernel)
theorem ll_161 : Cond.methodLink RL 161 yX12_tritones ∈ lw_g := lw_mem 1888 (by decide +kernel) (by decide +kernel)
theorem ll_162 : Cond.methodLink RL 162 yL_interval ∈ lw_g := lw_mem 1207 (by decide +kernel) (by decide +kernel)
theorem ll_164 : Cond.methodLink RL 164 yX12_interval ∈ lw_g := lw_mem 1903 (by decide +kernel) (by decide +kernel)
theorem ll_165 : Cond.methodLink RL 165 yL_own ∈ lw_g := lw_mem 1215 (by decide +kernel) (by decide +kernel)
theorem ll_167 : Cond.methodLink RL 167 yX12_own ∈ lw_g := lw_mem 1908 (by decide +kernel) (by decide +kernel)
theorem ll_168 : Cond.methodLink RL 168 yL_breath ∈ lw_g := lw_mem 1223 (by decide +kernel) (by decide +kernel)
theorem ll_170 : Cond.methodLink RL 170 yX12_breath ∈ lw_g := lw_mem 1912 (by decide +kernel) (by decide +kernel)
theorem ll_171 : Cond.methodLink RL 171 yX11_palindrome ∈ lw_g := lw_mem 663 (by decide +kernel) (by decide +kernel)
theorem ll_174 : Cond.methodLink RL 174 yX12_palindrome ∈ lw_g := lw_mem 1916 (by decide +kernel) (by decide +kernel)
theorem ll_175 : Cond.methodLink RL 175 yX11_tonic ∈ lw_g := lw_mem 672 (by decide +kernel) (by decide +kernel)
theorem ll_178 : Cond.methodLink RL 178 yX12_tonic ∈ lw_g := lw_mem 1925 (by decide +kernel) (by decide +kernel)
theorem ll_179 : Cond.methodLink RL 179 yL_like ∈ lw_g := lw_mem 1230 (by decide +kernel) (by decide +kernel)
theorem ll_181 : Cond.methodLink RL 181 yX12_like ∈ lw_g := lw_mem 1933 (by decide +kernel) (by decide +kernel)
theorem ll_182 : Cond.methodLink RL 182 yL_then ∈ lw_g := lw_mem 1243 (by decide +kernel) (by decide +kernel)
theorem ll_184 : Cond.methodLink RL 184 yX12_then ∈ lw_g := lw_mem 1945 (by decide +kernel) (by decide +kernel)
theorem ll_185 : Cond.methodLink RL 185 yL_when ∈ lw_g := lw_mem 1255 (by decide +kernel) (by decide +kernel)
theorem ll_187 : Cond.methodLink RL 187 yX12_when ∈ lw_g := lw_mem 1950 (by decide +kernel) (by decide +kernel)
theorem ll_188 : Cond.methodLink RL 188 yL_quiet ∈ lw_g := lw_mem 1262 (by decide +kernel) (by decide +kernel)
theorem ll_190 : Cond.methodLink RL 190 yX12_quiet ∈ lw_g := lw_mem 1954 (by decide +kernel) (by decide +kernel)
theorem ll_191 : Cond.methodLink RL 191 yX11_match ∈ lw_g := lw_mem 680 (by decide +kernel) (by decide +kernel)
theorem ll_194 : Cond.methodLink RL 194 yX12_match ∈ lw_g := lw_mem 1962 (by decide +kernel) (by decide +kernel)
theorem ll_195 : Cond.methodLink RL 195 yX11_hear ∈ lw_g := lw_mem 736 (by decide +kernel) (by decide +kernel)
theorem ll_198 : Cond.methodLink RL 198 yX12_hear ∈ lw_g := lw_mem 1970 (by decide +kernel) (by decide +kernel)
theorem ll_199 : Cond.methodLink RL 199 yL_spy ∈ lw_g := lw_mem 1274 (by decide +kernel) (by decide +kernel)
theorem ll_201 : Cond.methodLink RL 201 yX12_spy ∈ lw_g := lw_mem 1975 (by decide +kernel) (by decide +kernel)
theorem ll_202 : Cond.methodLink RL 202 yL_listen ∈ lw_g := lw_mem 1294 (by decide +kernel) (by decide +kernel)
theorem ll_204 : Cond.methodLink RL 204 yX12_listen ∈ lw_g := lw_mem 1987 (by decide +kernel) (by decide +kernel)
theorem ll_205 : Cond.methodLink RL 205 yX11_forget ∈ lw_g := lw_mem 744 (by decide +kernel) (by decide +kernel)
theorem ll_208 : Cond.methodLink RL 208 yX12_forget ∈ lw_g := lw_mem 1995 (by decide +kernel) (by decide +kernel)
theorem ll_209 : Cond.methodLink RL 209 yX11_vote ∈ lw_g := lw_mem 748 (by decide +kernel) (by decide +kernel)
theorem ll_212 : Cond.methodLink RL 212 yX12_vote ∈ lw_g := lw_mem 1999 (by decide +kernel) (by decide +kernel)
theorem ll_213 : Cond.methodLink RL 213 yL_game ∈ lw_g := lw_mem 1306 (by decide +kernel) (by decide +kernel)
theorem ll_215 : Cond.methodLink RL 215 yX12_game ∈ lw_g := lw_mem 2007 (by decide +kernel) (by decide +kernel)
theorem ll_216 : Cond.methodLink RL 216 yL_century ∈ lw_g := lw_mem 1346 (by decide +kernel) (by decide +kernel)
theorem ll_218 : Cond.methodLink RL 218 yX12_century ∈ lw_g := lw_mem 2024 (by decide +kernel) (by decide +kernel)
theorem ll_219 : Cond.methodLink RL 219 yX11_image ∈ lw_g := lw_mem 759 (by decide +kernel) (by decide +kernel)
theorem ll_222 : Cond.methodLink RL 222 yX12_image ∈ lw_g := lw_mem 2037 (by decide +kernel) (by decide +kernel)
theorem ll_223 : Cond.methodLink RL 223 yX11_restore ∈ lw_g := lw_mem 773 (by decide +kernel) (by decide +kernel)
theorem ll_227 : Cond.methodLink RL 227 yX12_restore ∈ lw_g := lw_mem 2044 (by decide +kernel) (by decide +kernel)
