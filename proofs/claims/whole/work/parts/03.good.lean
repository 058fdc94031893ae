set_option maxRecDepth 20000 in
theorem g_PF_init_Text_init : GoodIn w_PF_init (w_Text_init) := goodIn_p _ [8, 3] rfl (by decide +kernel)
set_option maxRecDepth 20000 in
theorem g_PF_init_Boxes_init : GoodIn w_PF_init (w_Boxes_init) := goodIn_p _ [25, 3] rfl (by decide +kernel)
set_option maxRecDepth 20000 in
theorem g_PF_init_Grid_init : GoodIn w_PF_init (w_Grid_init) := goodIn_p _ [36, 3] rfl (by decide +kernel)
set_option maxRecDepth 20000 in
theorem g_PF_init_Code_init : GoodIn w_PF_init (w_Code_init) := goodIn_p _ [47, 3] rfl (by decide +kernel)
set_option maxRecDepth 20000 in
theorem g_PF_unit_Text_append : GoodIn w_PF_unit (w_Text_append) := goodIn_p _ [5, 11] rfl (by decide +kernel)
set_option maxRecDepth 20000 in
theorem g_PF_broken_Text_breakInto : GoodIn w_PF_broken (w_Text_breakInto) := goodIn_p _ [5, 9, 15, 21, 26, 31] rfl (by decide +kernel)
set_option maxRecDepth 20000 in
theorem g_PF_line_Text_firstWordOf : GoodIn w_PF_line (w_Text_firstWordOf) := goodIn_p _ [5] rfl (by decide +kernel)
set_option maxRecDepth 20000 in
theorem g_PF_rest_Text_sumOfSquares : GoodIn w_PF_rest (w_Text_sumOfSquares) := goodIn_p _ [5] rfl (by decide +kernel)
set_option maxRecDepth 20000 in
theorem g_PF_clear_Text_empty : GoodIn w_PF_clear (w_Text_empty) := goodIn_p _ [5, 12] rfl (by decide +kernel)
set_option maxRecDepth 20000 in
theorem g_PF_box_Boxes_add : GoodIn w_PF_box (w_Boxes_add) := goodIn_p _ [5, 8] rfl (by decide +kernel)
set_option maxRecDepth 20000 in
theorem g_PF_pages_Boxes_countPages : GoodIn w_PF_pages (w_Boxes_countPages) := goodIn_p _ [5, 8, 11, 16] rfl (by decide +kernel)
set_option maxRecDepth 20000 in
theorem g_PF_put_Boxes_placeOf : GoodIn w_PF_put (w_Boxes_placeOf) := goodIn_p _ [5, 8, 11, 16] rfl (by decide +kernel)
set_option maxRecDepth 20000 in
theorem g_PF_grid_Grid_resize : GoodIn w_PF_grid (w_Grid_resize) := goodIn_p _ [5, 8] rfl (by decide +kernel)
set_option maxRecDepth 20000 in
theorem g_PF_cage_Grid_mark : GoodIn w_PF_cage (w_Grid_mark) := goodIn_p _ [5] rfl (by decide +kernel)
set_option maxRecDepth 20000 in
theorem g_PF_lines_Grid_countLines : GoodIn w_PF_lines (w_Grid_countLines) := goodIn_p _ [5, 9, 14, 19, 24] rfl (by decide +kernel)
set_option maxRecDepth 20000 in
theorem g_PF_drawn_Grid_partOfLine : GoodIn w_PF_drawn (w_Grid_partOfLine) := goodIn_p _ [5, 9, 14, 19, 24] rfl (by decide +kernel)
set_option maxRecDepth 20000 in
theorem g_PF_code_Code_append : GoodIn w_PF_code (w_Code_append) := goodIn_p _ [5, 11, 15, 19] rfl (by decide +kernel)
set_option maxRecDepth 20000 in
theorem g_PF_rows_Code_countRows : GoodIn w_PF_rows (w_Code_countRows) := goodIn_p _ [5] rfl (by decide +kernel)
set_option maxRecDepth 20000 in
theorem g_PF_dark_Code_isDark : GoodIn w_PF_dark (w_Code_isDark) := goodIn_p _ [5, 9, 13] rfl (by decide +kernel)
set_option maxRecDepth 20000 in
theorem g_PF_spoil_Code_turnOver : GoodIn w_PF_spoil (w_Code_turnOver) := goodIn_p _ [5, 9, 13] rfl (by decide +kernel)
set_option maxRecDepth 20000 in
theorem g_PF_read_Code_mend : GoodIn w_PF_read (w_Code_mend) := goodIn_p _ [5, 10, 14, 18] rfl (by decide +kernel)
set_option maxRecDepth 20000 in
theorem g_PF_byteAt_Code_toldByte : GoodIn w_PF_byteAt (w_Code_toldByte) := goodIn_p _ [5] rfl (by decide +kernel)
set_option maxRecDepth 20000 in
theorem g_PF_wipe_Code_empty : GoodIn w_PF_wipe (w_Code_empty) := goodIn_p _ [5] rfl (by decide +kernel)
set_option maxRecDepth 20000 in
theorem g_Mod_unit_Mod_within : GoodIn w_Mod_unit (wsS R_Mod 51 y_Mod_within w_Mod_within) := goodIn_p _ [5] rfl (by decide +kernel)
set_option maxRecDepth 20000 in
theorem g_Mod_broken_Mod_within : GoodIn w_Mod_broken (wsS R_Mod 51 y_Mod_within w_Mod_within) := goodIn_p _ [5] rfl (by decide +kernel)
set_option maxRecDepth 20000 in
theorem g_Mod_broken_Mod_cutWords : GoodIn w_Mod_broken (wsV R_Mod 58 R_Mod y_Mod_cutWords w_Mod_cutWords) := goodIn_p _ [9] rfl (by decide +kernel)
set_option maxRecDepth 20000 in
theorem g_Mod_broken_Mod_findLine : GoodIn w_Mod_broken (wsV R_Mod 68 R_Mod y_Mod_findLine w_Mod_findLine) := goodIn_p _ [20] rfl (by decide +kernel)
set_option maxRecDepth 20000 in
theorem g_Mod_line_Mod_within : GoodIn w_Mod_line (wsS R_Mod 51 y_Mod_within w_Mod_within) := goodIn_p _ [6] rfl (by decide +kernel)
set_option maxRecDepth 20000 in
theorem g_Mod_box_Mod_within : GoodIn w_Mod_box (wsS R_Mod 51 y_Mod_within w_Mod_within) := goodIn_p _ [5] rfl (by decide +kernel)
set_option maxRecDepth 20000 in
theorem g_Mod_isPage_Mod_within : GoodIn w_Mod_isPage (wsS R_Mod 51 y_Mod_within w_Mod_within) := goodIn_p _ [4] rfl (by decide +kernel)
set_option maxRecDepth 20000 in
theorem g_Mod_pages_Mod_isPage : GoodIn w_Mod_pages (wsS R_Mod 81 y_Mod_isPage w_Mod_isPage) := goodIn_p _ [5, 8] rfl (by decide +kernel)
set_option maxRecDepth 20000 in
theorem g_Mod_pages_Mod_putUpTo : GoodIn w_Mod_pages (wsV R_Mod 85 R_Mod y_Mod_putUpTo w_Mod_putUpTo) := goodIn_p _ [13] rfl (by decide +kernel)
set_option maxRecDepth 20000 in
theorem g_Mod_put_Mod_isPage : GoodIn w_Mod_put (wsS R_Mod 81 y_Mod_isPage w_Mod_isPage) := goodIn_p _ [5, 8] rfl (by decide +kernel)
set_option maxRecDepth 20000 in
theorem g_Mod_put_Mod_within : GoodIn w_Mod_put (wsS R_Mod 51 y_Mod_within w_Mod_within) := goodIn_p _ [8] rfl (by decide +kernel)
set_option maxRecDepth 20000 in
theorem g_Mod_put_Mod_putUpTo : GoodIn w_Mod_put (wsV R_Mod 85 R_Mod y_Mod_putUpTo w_Mod_putUpTo) := goodIn_p _ [13] rfl (by decide +kernel)
set_option maxRecDepth 20000 in
theorem g_Mod_grid_Mod_within : GoodIn w_Mod_grid (wsS R_Mod 51 y_Mod_within w_Mod_within) := goodIn_p _ [5] rfl (by decide +kernel)
set_option maxRecDepth 20000 in
theorem g_Mod_cage_Mod_within : GoodIn w_Mod_cage (wsS R_Mod 51 y_Mod_within w_Mod_within) := goodIn_p _ [7] rfl (by decide +kernel)
set_option maxRecDepth 20000 in
theorem g_Mod_begins_Mod_isThick : GoodIn w_Mod_begins (wsV R_Mod 88 R_Mod y_Mod_isThick w_Mod_isThick) := goodIn_p _ [5] rfl (by decide +kernel)
set_option maxRecDepth 20000 in
theorem g_Mod_findLineOf_Mod_begins : GoodIn w_Mod_findLineOf (wsV R_Mod 92 R_Mod y_Mod_begins w_Mod_begins) := goodIn_p _ [7, 11] rfl (by decide +kernel)
set_option maxRecDepth 20000 in
theorem g_Mod_findLineOf_Mod_keep : GoodIn w_Mod_findLineOf (wsV R_Mod 95 R_Mod y_Mod_keep w_Mod_keep) := goodIn_p _ [16] rfl (by decide +kernel)
set_option maxRecDepth 20000 in
theorem g_Mod_lines_Mod_findLineOf : GoodIn w_Mod_lines (wsV R_Mod 109 R_Mod y_Mod_findLineOf w_Mod_findLineOf) := goodIn_p _ [6, 12, 16, 21] rfl (by decide +kernel)
set_option maxRecDepth 20000 in
theorem g_Mod_drawn_Mod_within : GoodIn w_Mod_drawn (wsS R_Mod 51 y_Mod_within w_Mod_within) := goodIn_p _ [5] rfl (by decide +kernel)
set_option maxRecDepth 20000 in
theorem g_Mod_drawn_Mod_findLineOf : GoodIn w_Mod_drawn (wsV R_Mod 109 R_Mod y_Mod_findLineOf w_Mod_findLineOf) := goodIn_p _ [9, 15, 19, 24] rfl (by decide +kernel)
set_option maxRecDepth 20000 in
theorem g_Mod_drawn_Mod_begins : GoodIn w_Mod_drawn (wsV R_Mod 92 R_Mod y_Mod_begins w_Mod_begins) := goodIn_p _ [15, 19] rfl (by decide +kernel)
set_option maxRecDepth 20000 in
theorem g_Mod_drawn_Mod_isThick : GoodIn w_Mod_drawn (wsV R_Mod 88 R_Mod y_Mod_isThick w_Mod_isThick) := goodIn_p _ [19] rfl (by decide +kernel)
set_option maxRecDepth 20000 in
theorem g_Mod_code_Mod_within : GoodIn w_Mod_code (wsS R_Mod 51 y_Mod_within w_Mod_within) := goodIn_p _ [5] rfl (by decide +kernel)
set_option maxRecDepth 20000 in
theorem g_Mod_isSquare_Mod_within : GoodIn w_Mod_isSquare (wsS R_Mod 51 y_Mod_within w_Mod_within) := goodIn_p _ [5] rfl (by decide +kernel)
set_option maxRecDepth 20000 in
theorem g_Mod_isDark_Mod_asTold : GoodIn w_Mod_isDark (wsV R_Mod 116 R_Mod y_Mod_asTold w_Mod_asTold) := goodIn_p _ [5] rfl (by decide +kernel)
set_option maxRecDepth 20000 in
theorem g_Mod_dark_Mod_isSquare : GoodIn w_Mod_dark (wsV R_Mod 119 R_Mod y_Mod_isSquare w_Mod_isSquare) := goodIn_p _ [6, 10] rfl (by decide +kernel)
set_option maxRecDepth 20000 in
theorem g_Mod_dark_Mod_isDark : GoodIn w_Mod_dark (wsV R_Mod 122 R_Mod y_Mod_isDark w_Mod_isDark) := goodIn_p _ [14, 18] rfl (by decide +kernel)
set_option maxRecDepth 20000 in
theorem g_Mod_spoil_Mod_isSquare : GoodIn w_Mod_spoil (wsV R_Mod 119 R_Mod y_Mod_isSquare w_Mod_isSquare) := goodIn_p _ [6, 10] rfl (by decide +kernel)
set_option maxRecDepth 20000 in
theorem g_Mod_byteAt_Mod_within : GoodIn w_Mod_byteAt (wsS R_Mod 51 y_Mod_within w_Mod_within) := goodIn_p _ [6] rfl (by decide +kernel)
set_option maxRecDepth 20000 in
theorem g_Mod_byteAt_Mod_isDark : GoodIn w_Mod_byteAt (wsV R_Mod 122 R_Mod y_Mod_isDark w_Mod_isDark) := goodIn_p _ [10, 14] rfl (by decide +kernel)
set_option maxRecDepth 20000 in
theorem g_Boxes_add_Boxes_isHeight : GoodIn w_Boxes_add (wsS R_Boxes 25 y_Boxes_isHeight w_Boxes_isHeight) := goodIn_p _ [4] rfl (by decide +kernel)
set_option maxRecDepth 20000 in
theorem g_Boxes_countPages_Boxes_isHeight : GoodIn w_Boxes_countPages (wsS R_Boxes 25 y_Boxes_isHeight w_Boxes_isHeight) := goodIn_p _ [4] rfl (by decide +kernel)
set_option maxRecDepth 20000 in
theorem g_Boxes_countPages_Boxes_isGap : GoodIn w_Boxes_countPages (wsS R_Boxes 29 y_Boxes_isGap w_Boxes_isGap) := goodIn_p _ [7] rfl (by decide +kernel)
set_option maxRecDepth 20000 in
theorem g_Boxes_countPages_Boxes_putFirst : GoodIn w_Boxes_countPages (wsV R_Boxes 32 R_Boxes y_Boxes_putFirst w_Boxes_putFirst) := goodIn_p _ [12] rfl (by decide +kernel)
set_option maxRecDepth 20000 in
theorem g_Boxes_placeOf_Boxes_isHeight : GoodIn w_Boxes_placeOf (wsS R_Boxes 25 y_Boxes_isHeight w_Boxes_isHeight) := goodIn_p _ [4] rfl (by decide +kernel)
set_option maxRecDepth 20000 in
theorem g_Boxes_placeOf_Boxes_isGap : GoodIn w_Boxes_placeOf (wsS R_Boxes 29 y_Boxes_isGap w_Boxes_isGap) := goodIn_p _ [7] rfl (by decide +kernel)
set_option maxRecDepth 20000 in
theorem g_Boxes_placeOf_Boxes_putFirst : GoodIn w_Boxes_placeOf (wsV R_Boxes 32 R_Boxes y_Boxes_putFirst w_Boxes_putFirst) := goodIn_p _ [12] rfl (by decide +kernel)
set_option maxRecDepth 20000 in
theorem g_Code_append_Code_drawSquares : GoodIn w_Code_append (wsV R_Code 22 R_Code y_Code_drawSquares w_Code_drawSquares) := goodIn_p _ [7, 11, 15] rfl (by decide +kernel)
set_option maxRecDepth 20000 in
theorem g_Code_drawSquares_Code_isOdd : GoodIn w_Code_drawSquares (wsS R_Code 25 y_Code_isOdd w_Code_isOdd) := goodIn_p _ [7, 11] rfl (by decide +kernel)
set_option maxRecDepth 20000 in
theorem g_Code_isOdd_bitCount : GoodIn w_Code_isOdd (va_wsS R_Code 29 y_bitCount w_bitCount) := goodIn_p _ [4] rfl (by decide +kernel)
set_option maxRecDepth 20000 in
theorem g_Code_isSquare_Code_countRows : GoodIn w_Code_isSquare (wsV R_Code 35 R_Code y_Code_countRows w_Code_countRows) := goodIn_p _ [5] rfl (by decide +kernel)
set_option maxRecDepth 20000 in
theorem g_Code_isDark_Code_isSquare : GoodIn w_Code_isDark (wsV R_Code 39 R_Code y_Code_isSquare w_Code_isSquare) := goodIn_p _ [5, 9] rfl (by decide +kernel)
set_option maxRecDepth 20000 in
theorem g_Code_turnOver_Code_isSquare : GoodIn w_Code_turnOver (wsV R_Code 39 R_Code y_Code_isSquare w_Code_isSquare) := goodIn_p _ [5, 9] rfl (by decide +kernel)
set_option maxRecDepth 20000 in
theorem g_Code_mend_Code_countRows : GoodIn w_Code_mend (wsV R_Code 35 R_Code y_Code_countRows w_Code_countRows) := goodIn_p _ [6] rfl (by decide +kernel)
set_option maxRecDepth 20000 in
theorem g_Code_mend_Code_isOdd : GoodIn w_Code_mend (wsS R_Code 25 y_Code_isOdd w_Code_isOdd) := goodIn_p _ [10, 14] rfl (by decide +kernel)
set_option maxRecDepth 20000 in
theorem g_Code_mend_bitCount : GoodIn w_Code_mend (va_wsS R_Code 29 y_bitCount w_bitCount) := goodIn_p _ [14] rfl (by decide +kernel)
set_option maxRecDepth 20000 in
theorem g_Grid_resize_Grid_isSide : GoodIn w_Grid_resize (wsS R_Grid 25 y_Grid_isSide w_Grid_isSide) := goodIn_p _ [4] rfl (by decide +kernel)
set_option maxRecDepth 20000 in
theorem g_Grid_countLines_Grid_walkLines : GoodIn w_Grid_countLines (wsV R_Grid 29 R_Grid y_Grid_walkLines w_Grid_walkLines) := goodIn_p _ [5, 10, 15, 20] rfl (by decide +kernel)
set_option maxRecDepth 20000 in
theorem g_Grid_partOfLine_Grid_walkLines : GoodIn w_Grid_partOfLine (wsV R_Grid 29 R_Grid y_Grid_walkLines w_Grid_walkLines) := goodIn_p _ [5, 10, 15, 20] rfl (by decide +kernel)
set_option maxRecDepth 20000 in
theorem g_Grid_walkLines_Grid_walkRow : GoodIn w_Grid_walkLines (wsV R_Grid 33 R_Grid y_Grid_walkRow w_Grid_walkRow) := goodIn_p _ [6, 11, 16] rfl (by decide +kernel)
set_option maxRecDepth 20000 in
theorem g_Grid_walkRow_Grid_isThick : GoodIn w_Grid_walkRow (wsV R_Grid 37 R_Grid y_Grid_isThick w_Grid_isThick) := goodIn_p _ [7] rfl (by decide +kernel)
set_option maxRecDepth 20000 in
theorem g_Grid_walkRow_Grid_keepLine : GoodIn w_Grid_walkRow (wsV R_Grid 41 R_Grid y_Grid_keepLine w_Grid_keepLine) := goodIn_p _ [12] rfl (by decide +kernel)
set_option maxRecDepth 20000 in
theorem g_Text_append_Text_appendLetter : GoodIn w_Text_append (wsV R_Text 41 R_Text y_Text_appendLetter w_Text_appendLetter) := goodIn_p _ [7] rfl (by decide +kernel)
set_option maxRecDepth 20000 in
theorem g_Text_empty_Text_forgetBreak : GoodIn w_Text_empty (wsV R_Text 44 R_Text y_Text_forgetBreak w_Text_forgetBreak) := goodIn_p _ [8] rfl (by decide +kernel)
set_option maxRecDepth 20000 in
theorem g_Text_breakInto_Text_forgetBreak : GoodIn w_Text_breakInto (wsV R_Text 44 R_Text y_Text_forgetBreak w_Text_forgetBreak) := goodIn_p _ [5] rfl (by decide +kernel)
set_option maxRecDepth 20000 in
theorem g_Text_breakInto_Text_hasWordLongerThan : GoodIn w_Text_breakInto (wsV R_Text 47 R_Text y_Text_hasWordLongerThan w_Text_hasWordLongerThan) := goodIn_p _ [11] rfl (by decide +kernel)
set_option maxRecDepth 20000 in
theorem g_Text_breakInto_Text_findLeastSums : GoodIn w_Text_breakInto (wsV R_Text 51 R_Text y_Text_findLeastSums w_Text_findLeastSums) := goodIn_p _ [17, 22] rfl (by decide +kernel)
set_option maxRecDepth 20000 in
theorem g_Text_breakInto_Text_keepBreak : GoodIn w_Text_breakInto (wsV R_Text 55 R_Text y_Text_keepBreak w_Text_keepBreak) := goodIn_p _ [27] rfl (by decide +kernel)
set_option maxRecDepth 20000 in
theorem g_Text_findLeastSums_Text_findBestLine : GoodIn w_Text_findLeastSums (wsV R_Text 58 R_Text y_Text_findBestLine w_Text_findBestLine) := goodIn_p _ [7] rfl (by decide +kernel)
