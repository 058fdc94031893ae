set_option maxRecDepth 20000 in
theorem g_law_law_PF_init : GoodIn lw_tbl (w_PF_init) := goodIn_p _ [54, 57, 62, 97, 116, 135] rfl (by decide +kernel)
set_option maxRecDepth 20000 in
theorem g_law_law_Mod_init : GoodIn lw_tbl (w_Mod_init) := goodIn_p _ [387, 57] rfl (by decide +kernel)
set_option maxRecDepth 20000 in
theorem g_law_law_PF_unit : GoodIn lw_tbl (wsV R_law 13 R_PF y_PF_unit w_PF_unit) := goodIn_p _ [163, 167, 171] rfl (by decide +kernel)
set_option maxRecDepth 20000 in
theorem g_law_law_Mod_unit : GoodIn lw_tbl (wsV R_law 17 R_Mod y_Mod_unit w_Mod_unit) := goodIn_p _ [463, 466] rfl (by decide +kernel)
set_option maxRecDepth 20000 in
theorem g_law_law_PF_broken : GoodIn lw_tbl (wsV R_law 18 R_PF y_PF_broken w_PF_broken) := goodIn_p _ [175, 179, 183, 187, 191, 195, 199] rfl (by decide +kernel)
set_option maxRecDepth 20000 in
theorem g_law_law_Mod_broken : GoodIn lw_tbl (wsV R_law 22 R_Mod y_Mod_broken w_Mod_broken) := goodIn_p _ [470, 466, 474, 478] rfl (by decide +kernel)
set_option maxRecDepth 20000 in
theorem g_law_law_PF_line : GoodIn lw_tbl (wsV R_law 23 R_PF y_PF_line w_PF_line) := goodIn_p _ [203, 207] rfl (by decide +kernel)
set_option maxRecDepth 20000 in
theorem g_law_law_Mod_line : GoodIn lw_tbl (wsV R_law 26 R_Mod y_Mod_line w_Mod_line) := goodIn_p _ [482, 466] rfl (by decide +kernel)
set_option maxRecDepth 20000 in
theorem g_law_law_PF_rest : GoodIn lw_tbl (wsV R_law 27 R_PF y_PF_rest w_PF_rest) := goodIn_p _ [211, 215] rfl (by decide +kernel)
set_option maxRecDepth 20000 in
theorem g_law_law_Mod_rest : GoodIn lw_tbl (wsV R_law 31 R_Mod y_Mod_rest w_Mod_rest) := goodIn_p _ [486] rfl (by decide +kernel)
set_option maxRecDepth 20000 in
theorem g_law_law_PF_clear : GoodIn lw_tbl (wsV R_law 32 R_PF y_PF_clear w_PF_clear) := goodIn_p _ [219, 223, 183] rfl (by decide +kernel)
set_option maxRecDepth 20000 in
theorem g_law_law_Mod_clear : GoodIn lw_tbl (wsV R_law 35 R_Mod y_Mod_clear w_Mod_clear) := goodIn_p _ [490] rfl (by decide +kernel)
set_option maxRecDepth 20000 in
theorem g_law_law_PF_box : GoodIn lw_tbl (wsV R_law 36 R_PF y_PF_box w_PF_box) := goodIn_p _ [227, 231, 234] rfl (by decide +kernel)
set_option maxRecDepth 20000 in
theorem g_law_law_Mod_box : GoodIn lw_tbl (wsV R_law 39 R_Mod y_Mod_box w_Mod_box) := goodIn_p _ [494, 466] rfl (by decide +kernel)
set_option maxRecDepth 20000 in
theorem g_law_law_PF_pages : GoodIn lw_tbl (wsV R_law 40 R_PF y_PF_pages w_PF_pages) := goodIn_p _ [238, 242, 234, 245, 249] rfl (by decide +kernel)
set_option maxRecDepth 20000 in
theorem g_law_law_Mod_pages : GoodIn lw_tbl (wsV R_law 44 R_Mod y_Mod_pages w_Mod_pages) := goodIn_p _ [498, 501, 466, 505] rfl (by decide +kernel)
set_option maxRecDepth 20000 in
theorem g_law_law_PF_put : GoodIn lw_tbl (wsV R_law 45 R_PF y_PF_put w_PF_put) := goodIn_p _ [253, 257, 234, 245, 249] rfl (by decide +kernel)
set_option maxRecDepth 20000 in
theorem g_law_law_Mod_put : GoodIn lw_tbl (wsV R_law 49 R_Mod y_Mod_put w_Mod_put) := goodIn_p _ [509, 501, 466, 505] rfl (by decide +kernel)
set_option maxRecDepth 20000 in
theorem g_law_law_PF_grid : GoodIn lw_tbl (wsV R_law 50 R_PF y_PF_grid w_PF_grid) := goodIn_p _ [261, 265, 268] rfl (by decide +kernel)
set_option maxRecDepth 20000 in
theorem g_law_law_Mod_grid : GoodIn lw_tbl (wsV R_law 54 R_Mod y_Mod_grid w_Mod_grid) := goodIn_p _ [513, 466] rfl (by decide +kernel)
set_option maxRecDepth 20000 in
theorem g_law_law_PF_cage : GoodIn lw_tbl (wsV R_law 55 R_PF y_PF_cage w_PF_cage) := goodIn_p _ [272, 276] rfl (by decide +kernel)
set_option maxRecDepth 20000 in
theorem g_law_law_Mod_cage : GoodIn lw_tbl (wsV R_law 58 R_Mod y_Mod_cage w_Mod_cage) := goodIn_p _ [517, 466] rfl (by decide +kernel)
set_option maxRecDepth 20000 in
theorem g_law_law_PF_lines : GoodIn lw_tbl (wsV R_law 59 R_PF y_PF_lines w_PF_lines) := goodIn_p _ [280, 284, 288, 292, 296, 300] rfl (by decide +kernel)
set_option maxRecDepth 20000 in
theorem g_law_law_Mod_lines : GoodIn lw_tbl (wsV R_law 62 R_Mod y_Mod_lines w_Mod_lines) := goodIn_p _ [521, 525, 529, 533, 537] rfl (by decide +kernel)
set_option maxRecDepth 20000 in
theorem g_law_law_PF_drawn : GoodIn lw_tbl (wsV R_law 63 R_PF y_PF_drawn w_PF_drawn) := goodIn_p _ [304, 308, 288, 292, 296, 300] rfl (by decide +kernel)
set_option maxRecDepth 20000 in
theorem g_law_law_Mod_drawn : GoodIn lw_tbl (wsV R_law 66 R_Mod y_Mod_drawn w_Mod_drawn) := goodIn_p _ [541, 466, 525, 529, 533, 537] rfl (by decide +kernel)
set_option maxRecDepth 20000 in
theorem g_law_law_PF_code : GoodIn lw_tbl (wsV R_law 67 R_PF y_PF_code w_PF_code) := goodIn_p _ [312, 316, 320, 323, 326] rfl (by decide +kernel)
set_option maxRecDepth 20000 in
theorem g_law_law_Mod_code : GoodIn lw_tbl (wsV R_law 70 R_Mod y_Mod_code w_Mod_code) := goodIn_p _ [545, 466] rfl (by decide +kernel)
set_option maxRecDepth 20000 in
theorem g_law_law_PF_rows : GoodIn lw_tbl (wsV R_law 71 R_PF y_PF_rows w_PF_rows) := goodIn_p _ [333, 337] rfl (by decide +kernel)
set_option maxRecDepth 20000 in
theorem g_law_law_Mod_rows : GoodIn lw_tbl (wsV R_law 74 R_Mod y_Mod_rows w_Mod_rows) := goodIn_p _ [549] rfl (by decide +kernel)
set_option maxRecDepth 20000 in
theorem g_law_law_PF_dark : GoodIn lw_tbl (wsV R_law 75 R_PF y_PF_dark w_PF_dark) := goodIn_p _ [341, 345, 349, 337] rfl (by decide +kernel)
set_option maxRecDepth 20000 in
theorem g_law_law_Mod_dark : GoodIn lw_tbl (wsV R_law 78 R_Mod y_Mod_dark w_Mod_dark) := goodIn_p _ [553, 557, 466, 561, 565] rfl (by decide +kernel)
set_option maxRecDepth 20000 in
theorem g_law_law_PF_spoil : GoodIn lw_tbl (wsV R_law 79 R_PF y_PF_spoil w_PF_spoil) := goodIn_p _ [354, 358, 349, 337] rfl (by decide +kernel)
set_option maxRecDepth 20000 in
theorem g_law_law_Mod_spoil : GoodIn lw_tbl (wsV R_law 82 R_Mod y_Mod_spoil w_Mod_spoil) := goodIn_p _ [569, 557, 466] rfl (by decide +kernel)
set_option maxRecDepth 20000 in
theorem g_law_law_PF_read : GoodIn lw_tbl (wsV R_law 83 R_PF y_PF_read w_PF_read) := goodIn_p _ [362, 366, 337, 323, 326] rfl (by decide +kernel)
set_option maxRecDepth 20000 in
theorem g_law_law_Mod_read : GoodIn lw_tbl (wsV R_law 86 R_Mod y_Mod_read w_Mod_read) := goodIn_p _ [573] rfl (by decide +kernel)
set_option maxRecDepth 20000 in
theorem g_law_law_PF_byteAt : GoodIn lw_tbl (wsV R_law 87 R_PF y_PF_byteAt w_PF_byteAt) := goodIn_p _ [370, 374] rfl (by decide +kernel)
set_option maxRecDepth 20000 in
theorem g_law_law_Mod_byteAt : GoodIn lw_tbl (wsV R_law 90 R_Mod y_Mod_byteAt w_Mod_byteAt) := goodIn_p _ [577, 466, 561, 565] rfl (by decide +kernel)
set_option maxRecDepth 20000 in
theorem g_law_law_PF_wipe : GoodIn lw_tbl (wsV R_law 91 R_PF y_PF_wipe w_PF_wipe) := goodIn_p _ [378, 382] rfl (by decide +kernel)
set_option maxRecDepth 20000 in
theorem g_law_law_Mod_wipe : GoodIn lw_tbl (wsV R_law 94 R_Mod y_Mod_wipe w_Mod_wipe) := goodIn_p _ [581] rfl (by decide +kernel)
