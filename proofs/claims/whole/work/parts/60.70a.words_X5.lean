set_option maxRecDepth 20000 in
theorem ggX5_init_X4_init : GoodIn wsX5_init wsX4_init := goodIn_r _ [14, 15, 16, 2, 3, 4, 17, 18, 19, 20, 21, 22, 23, 24, 25, 26, 34, 35, 36, 37, 38, 39, 40, 41, 42, 43, 44, 45, 46, 47, 48, 49] (by decide +kernel) (by decide +kernel)
set_option maxRecDepth 20000 in
theorem gX5_init_X4_init_n21 : GoodIn wsX5_init (wsX4_init) := ggX5_init_X4_init
set_option maxRecDepth 20000 in
theorem ggX5_isWeir_X5_isIn : GoodIn wsX5_isWeir wsX5_isIn := goodIn_r _ [5] (by decide +kernel) (by decide +kernel)
set_option maxRecDepth 20000 in
theorem gX5_isWeir_X5_isIn : GoodIn wsX5_isWeir (va_wsS RX5 38 yX5_isIn wsX5_isIn) := goodIn_app (goodIn_of _ (by decide +kernel)) ggX5_isWeir_X5_isIn
set_option maxRecDepth 20000 in
theorem ggX5_isBarge_X5_isIn : GoodIn wsX5_isBarge wsX5_isIn := goodIn_r _ [5] (by decide +kernel) (by decide +kernel)
set_option maxRecDepth 20000 in
theorem gX5_isBarge_X5_isIn : GoodIn wsX5_isBarge (va_wsS RX5 38 yX5_isIn wsX5_isIn) := goodIn_app (goodIn_of _ (by decide +kernel)) ggX5_isBarge_X5_isIn
set_option maxRecDepth 20000 in
theorem ggX5_weir_X5_isIn : GoodIn wsX5_weir wsX5_isIn := goodIn_r _ [9] (by decide +kernel) (by decide +kernel)
set_option maxRecDepth 20000 in
theorem gX5_weir_X5_isIn : GoodIn wsX5_weir (va_wsS RX5 38 yX5_isIn wsX5_isIn) := goodIn_app (goodIn_of _ (by decide +kernel)) ggX5_weir_X5_isIn
set_option maxRecDepth 20000 in
theorem ggX5_weir_X5_no : GoodIn wsX5_weir wsX5_no := goodIn_r _ [13, 1, 14, 15, 16, 17, 18, 19, 20] (by decide +kernel) (by decide +kernel)
set_option maxRecDepth 20000 in
theorem gX5_weir_X5_no : GoodIn wsX5_weir (wsV RX5 45 RX5 yX5_no wsX5_no) := goodIn_app (goodIn_of _ (by decide +kernel)) ggX5_weir_X5_no
set_option maxRecDepth 20000 in
theorem ggX5_gate_X5_isWeir : GoodIn wsX5_gate wsX5_isWeir := goodIn_r _ [7, 8, 9, 10, 6, 11, 18, 19, 20, 21, 22, 23, 24] (by decide +kernel) (by decide +kernel)
set_option maxRecDepth 20000 in
theorem gX5_gate_X5_isWeir : GoodIn wsX5_gate (wsV RX5 58 RX5 yX5_isWeir wsX5_isWeir) := goodIn_app (goodIn_of _ (by decide +kernel)) ggX5_gate_X5_isWeir
set_option maxRecDepth 20000 in
theorem ggX5_gate_X4_isHeld : GoodIn wsX5_gate wsX4_isHeld := goodIn_r _ [16, 17, 25, 26, 27, 28, 29, 30, 31, 32, 33, 34, 35, 36, 37, 38, 39, 40] (by decide +kernel) (by decide +kernel)
set_option maxRecDepth 20000 in
theorem gX5_gate_X4_isHeld : GoodIn wsX5_gate (wsV RX5 62 RX4 yX4_isHeld wsX4_isHeld) := goodIn_app (goodIn_of _ (by decide +kernel)) ggX5_gate_X4_isHeld
set_option maxRecDepth 20000 in
theorem ggX5_mend_X5_isWeir : GoodIn wsX5_mend wsX5_isWeir := goodIn_r _ [7, 8, 9, 10, 6, 11, 22, 23, 24, 25, 26, 27, 28] (by decide +kernel) (by decide +kernel)
set_option maxRecDepth 20000 in
theorem gX5_mend_X5_isWeir : GoodIn wsX5_mend (wsV RX5 58 RX5 yX5_isWeir wsX5_isWeir) := goodIn_app (goodIn_of _ (by decide +kernel)) ggX5_mend_X5_isWeir
set_option maxRecDepth 20000 in
theorem ggX5_mend_X5_no : GoodIn wsX5_mend wsX5_no := goodIn_r _ [15, 1, 22, 23, 24, 25, 26, 27, 28] (by decide +kernel) (by decide +kernel)
set_option maxRecDepth 20000 in
theorem gX5_mend_X5_no : GoodIn wsX5_mend (wsV RX5 45 RX5 yX5_no wsX5_no) := goodIn_app (goodIn_of _ (by decide +kernel)) ggX5_mend_X5_no
set_option maxRecDepth 20000 in
theorem ggX5_mend_X5_isIn : GoodIn wsX5_mend wsX5_isIn := goodIn_r _ [11] (by decide +kernel) (by decide +kernel)
set_option maxRecDepth 20000 in
theorem gX5_mend_X5_isIn : GoodIn wsX5_mend (va_wsS RX5 38 yX5_isIn wsX5_isIn) := goodIn_app (goodIn_of _ (by decide +kernel)) ggX5_mend_X5_isIn
set_option maxRecDepth 20000 in
theorem ggX5_mend_X4_isHeld : GoodIn wsX5_mend wsX4_isHeld := goodIn_r _ [20, 21, 29, 30, 31, 32, 33, 34, 35, 36, 37, 38, 39, 40, 41, 42, 43, 44] (by decide +kernel) (by decide +kernel)
set_option maxRecDepth 20000 in
theorem gX5_mend_X4_isHeld : GoodIn wsX5_mend (wsV RX5 62 RX4 yX4_isHeld wsX4_isHeld) := goodIn_app (goodIn_of _ (by decide +kernel)) ggX5_mend_X4_isHeld
set_option maxRecDepth 20000 in
theorem ggX5_drive_X5_isWeir : GoodIn wsX5_drive wsX5_isWeir := goodIn_r _ [7, 8, 9, 10, 6, 11, 22, 23, 24, 25, 26, 27, 28] (by decide +kernel) (by decide +kernel)
set_option maxRecDepth 20000 in
theorem gX5_drive_X5_isWeir : GoodIn wsX5_drive (wsV RX5 58 RX5 yX5_isWeir wsX5_isWeir) := goodIn_app (goodIn_of _ (by decide +kernel)) ggX5_drive_X5_isWeir
set_option maxRecDepth 20000 in
theorem ggX5_drive_X5_no : GoodIn wsX5_drive wsX5_no := goodIn_r _ [15, 1, 22, 23, 24, 25, 26, 27, 28] (by decide +kernel) (by decide +kernel)
set_option maxRecDepth 20000 in
theorem gX5_drive_X5_no : GoodIn wsX5_drive (wsV RX5 45 RX5 yX5_no wsX5_no) := goodIn_app (goodIn_of _ (by decide +kernel)) ggX5_drive_X5_no
set_option maxRecDepth 20000 in
theorem ggX5_drive_X5_isIn : GoodIn wsX5_drive wsX5_isIn := goodIn_r _ [11] (by decide +kernel) (by decide +kernel)
set_option maxRecDepth 20000 in
theorem gX5_drive_X5_isIn : GoodIn wsX5_drive (va_wsS RX5 38 yX5_isIn wsX5_isIn) := goodIn_app (goodIn_of _ (by decide +kernel)) ggX5_drive_X5_isIn
set_option maxRecDepth 20000 in
theorem ggX5_drive_X4_isHeld : GoodIn wsX5_drive wsX4_isHeld := goodIn_r _ [20, 21, 29, 30, 31, 32, 33, 34, 35, 36, 37, 38, 39, 40, 41, 42, 43, 44] (by decide +kernel) (by decide +kernel)
set_option maxRecDepth 20000 in
theorem gX5_drive_X4_isHeld : GoodIn wsX5_drive (wsV RX5 62 RX4 yX4_isHeld wsX4_isHeld) := goodIn_app (goodIn_of _ (by decide +kernel)) ggX5_drive_X4_isHeld
set_option maxRecDepth 20000 in
theorem ggX5_sell_X5_isWeir : GoodIn wsX5_sell wsX5_isWeir := goodIn_r _ [7, 8, 9, 10, 6, 11, 27, 28, 29, 30, 31, 32, 33] (by decide +kernel) (by decide +kernel)
set_option maxRecDepth 20000 in
theorem gX5_sell_X5_isWeir : GoodIn wsX5_sell (wsV RX5 58 RX5 yX5_isWeir wsX5_isWeir) := goodIn_app (goodIn_of _ (by decide +kernel)) ggX5_sell_X5_isWeir
set_option maxRecDepth 20000 in
theorem ggX5_sell_X5_no : GoodIn wsX5_sell wsX5_no := goodIn_r _ [15, 1, 27, 28, 29, 30, 31, 32, 33] (by decide +kernel) (by decide +kernel)
set_option maxRecDepth 20000 in
theorem gX5_sell_X5_no : GoodIn wsX5_sell (wsV RX5 45 RX5 yX5_no wsX5_no) := goodIn_app (goodIn_of _ (by decide +kernel)) ggX5_sell_X5_no
set_option maxRecDepth 20000 in
theorem ggX5_sell_X4_isHeld : GoodIn wsX5_sell wsX4_isHeld := goodIn_r _ [20, 21, 34, 35, 36, 37, 38, 39, 40, 41, 42, 43, 44, 45, 46, 47, 48, 49] (by decide +kernel) (by decide +kernel)
set_option maxRecDepth 20000 in
theorem gX5_sell_X4_isHeld : GoodIn wsX5_sell (wsV RX5 62 RX4 yX4_isHeld wsX4_isHeld) := goodIn_app (goodIn_of _ (by decide +kernel)) ggX5_sell_X4_isHeld
set_option maxRecDepth 20000 in
theorem ggX5_sell_X4_moon : GoodIn wsX5_sell wsX4_moon := goodIn_r _ [25, 26, 34, 35, 36, 37, 38, 39, 40, 41, 42, 43, 44, 45, 46, 47, 48, 49] (by decide +kernel) (by decide +kernel)
set_option maxRecDepth 20000 in
theorem gX5_sell_X4_moon : GoodIn wsX5_sell (wsV RX5 71 RX4 yX4_moon wsX4_moon) := goodIn_app (goodIn_of _ (by decide +kernel)) ggX5_sell_X4_moon
set_option maxRecDepth 20000 in
theorem ggX5_setRun_X5_isIn : GoodIn wsX5_setRun wsX5_isIn := goodIn_r _ [6] (by decide +kernel) (by decide +kernel)
set_option maxRecDepth 20000 in
theorem gX5_setRun_X5_isIn : GoodIn wsX5_setRun (va_wsS RX5 38 yX5_isIn wsX5_isIn) := goodIn_app (goodIn_of _ (by decide +kernel)) ggX5_setRun_X5_isIn
set_option maxRecDepth 20000 in
theorem ggX5_setRun_X5_no : GoodIn wsX5_setRun wsX5_no := goodIn_r _ [10, 1, 11, 12, 13, 14, 15, 16, 17] (by decide +kernel) (by decide +kernel)
set_option maxRecDepth 20000 in
theorem gX5_setRun_X5_no : GoodIn wsX5_setRun (wsV RX5 45 RX5 yX5_no wsX5_no) := goodIn_app (goodIn_of _ (by decide +kernel)) ggX5_setRun_X5_no
set_option maxRecDepth 20000 in
theorem ggX5_barge_X5_isIn : GoodIn wsX5_barge wsX5_isIn := goodIn_r _ [6] (by decide +kernel) (by decide +kernel)
set_option maxRecDepth 20000 in
theorem gX5_barge_X5_isIn : GoodIn wsX5_barge (va_wsS RX5 38 yX5_isIn wsX5_isIn) := goodIn_app (goodIn_of _ (by decide +kernel)) ggX5_barge_X5_isIn
set_option maxRecDepth 20000 in
theorem ggX5_barge_X5_no : GoodIn wsX5_barge wsX5_no := goodIn_r _ [10, 1, 11, 12, 13, 14, 15, 16, 17] (by decide +kernel) (by decide +kernel)
set_option maxRecDepth 20000 in
theorem gX5_barge_X5_no : GoodIn wsX5_barge (wsV RX5 45 RX5 yX5_no wsX5_no) := goodIn_app (goodIn_of _ (by decide +kernel)) ggX5_barge_X5_no
set_option maxRecDepth 20000 in
theorem ggX5_about_X5_isWeir : GoodIn wsX5_about wsX5_isWeir := goodIn_r _ [6, 7, 8, 9, 5, 10, 23, 24, 25, 26, 27, 28, 29] (by decide +kernel) (by decide +kernel)
set_option maxRecDepth 20000 in
theorem gX5_about_X5_isWeir : GoodIn wsX5_about (wsV RX5 58 RX5 yX5_isWeir wsX5_isWeir) := goodIn_app (goodIn_of _ (by decide +kernel)) ggX5_about_X5_isWeir
set_option maxRecDepth 20000 in
theorem ggX5_about_X5_isIn : GoodIn wsX5_about wsX5_isIn := goodIn_r _ [10] (by decide +kernel) (by decide +kernel)
set_option maxRecDepth 20000 in
theorem gX5_about_X5_isIn : GoodIn wsX5_about (va_wsS RX5 38 yX5_isIn wsX5_isIn) := goodIn_app (goodIn_of _ (by decide +kernel)) ggX5_about_X5_isIn
set_option maxRecDepth 20000 in
theorem ggX5_about_X5_weirTold : GoodIn wsX5_about wsX5_weirTold := goodIn_r _ [14, 15, 16, 17, 18, 23, 24, 25, 26, 27, 28, 29, 30, 31, 32, 33, 34, 35, 36, 37, 38, 39, 40, 41, 42, 43, 44, 45] (by decide +kernel) (by decide +kernel)
set_option maxRecDepth 20000 in
theorem gX5_about_X5_weirTold : GoodIn wsX5_about (wsV RX5 87 RX5 yX5_weirTold wsX5_weirTold) := goodIn_app (goodIn_of _ (by decide +kernel)) ggX5_about_X5_weirTold
set_option maxRecDepth 20000 in
theorem ggX5_about_X5_no : GoodIn wsX5_about wsX5_no := goodIn_r _ [22, 1, 23, 24, 25, 26, 27, 28, 29] (by decide +kernel) (by decide +kernel)
set_option maxRecDepth 20000 in
theorem gX5_about_X5_no : GoodIn wsX5_about (wsV RX5 45 RX5 yX5_no wsX5_no) := goodIn_app (goodIn_of _ (by decide +kernel)) ggX5_about_X5_no
set_option maxRecDepth 20000 in
theorem ggX5_nextFor_X4_isInWay : GoodIn wsX5_nextFor wsX4_isInWay := goodIn_r _ [8, 9, 10, 11, 12, 13, 7, 14, 15, 23, 24, 25, 26, 27, 28, 29, 30, 31, 32, 33, 34, 35, 36, 37, 38] (by decide +kernel) (by decide +kernel)
set_option maxRecDepth 20000 in
theorem gX5_nextFor_X4_isInWay : GoodIn wsX5_nextFor (wsV RX5 91 RX4 yX4_isInWay wsX4_isInWay) := goodIn_app (goodIn_of _ (by decide +kernel)) ggX5_nextFor_X4_isInWay
set_option maxRecDepth 20000 in
theorem ggX5_bargeTold_X5_nextFor : GoodIn wsX5_bargeTold wsX5_nextFor := goodIn_r _ [6, 1, 7, 8, 9, 10, 11, 12, 13, 14, 15, 16, 17, 18, 19, 20, 21, 22, 23, 24, 25, 26, 27, 28, 29, 30, 31, 32, 33, 34, 35, 36, 37, 38, 39, 40, 41, 42, 43] (by decide +kernel) (by decide +kernel)
set_option maxRecDepth 20000 in
theorem gX5_bargeTold_X5_nextFor : GoodIn wsX5_bargeTold (wsV RX5 95 RX5 yX5_nextFor wsX5_nextFor) := goodIn_app (goodIn_of _ (by decide +kernel)) ggX5_bargeTold_X5_nextFor
set_option maxRecDepth 20000 in
theorem ggX5_told_X5_isBarge : GoodIn wsX5_told wsX5_isBarge := goodIn_r _ [6, 7, 8, 9, 5, 10, 37, 38, 39, 40, 41, 42, 43, 44, 45, 46, 47, 48, 49, 50, 51, 52, 53, 54, 55, 56, 57, 58, 59] (by decide +kernel) (by decide +kernel)
set_option maxRecDepth 20000 in
theorem gX5_told_X5_isBarge : GoodIn wsX5_told (wsV RX5 98 RX5 yX5_isBarge wsX5_isBarge) := goodIn_app (goodIn_of _ (by decide +kernel)) ggX5_told_X5_isBarge
set_option maxRecDepth 20000 in
theorem ggX5_told_X5_isIn : GoodIn wsX5_told wsX5_isIn := goodIn_r _ [10] (by decide +kernel) (by decide +kernel)
set_option maxRecDepth 20000 in
theorem gX5_told_X5_isIn : GoodIn wsX5_told (va_wsS RX5 38 yX5_isIn wsX5_isIn) := goodIn_app (goodIn_of _ (by decide +kernel)) ggX5_told_X5_isIn
set_option maxRecDepth 20000 in
theorem ggX5_told_X5_bargeTold : GoodIn wsX5_told wsX5_bargeTold := goodIn_r _ [14, 7, 15, 16, 17, 5, 18, 19, 20, 21, 22, 23, 24, 25, 26, 27, 28, 29, 30, 31, 32, 37, 38, 39, 40, 41, 42, 43, 44, 45, 46, 47, 48, 49, 50, 51, 52, 53, 54, 55, 56, 57, 58, 59] (by decide +kernel) (by decide +kernel)
set_option maxRecDepth 20000 in
theorem gX5_told_X5_bargeTold : GoodIn wsX5_told (wsV RX5 101 RX5 yX5_bargeTold wsX5_bargeTold) := goodIn_app (goodIn_of _ (by decide +kernel)) ggX5_told_X5_bargeTold
set_option maxRecDepth 20000 in
theorem ggX5_told_X5_no : GoodIn wsX5_told wsX5_no := goodIn_r _ [36, 1, 37, 38, 39, 40, 41, 42, 43] (by decide +kernel) (by decide +kernel)
set_option maxRecDepth 20000 in
theorem gX5_told_X5_no : GoodIn wsX5_told (wsV RX5 45 RX5 yX5_no wsX5_no) := goodIn_app (goodIn_of _ (by decide +kernel)) ggX5_told_X5_no
set_option maxRecDepth 20000 in
theorem ggX5_count_X5_isIn : GoodIn wsX5_count wsX5_isIn := goodIn_r _ [6] (by decide +kernel) (by decide +kernel)
set_option maxRecDepth 20000 in
theorem gX5_count_X5_isIn : GoodIn wsX5_count (va_wsS RX5 38 yX5_isIn wsX5_isIn) := goodIn_app (goodIn_of _ (by decide +kernel)) ggX5_count_X5_isIn
set_option maxRecDepth 20000 in
theorem ggX5_count_X4_counted : GoodIn wsX5_count wsX4_counted := goodIn_r _ [11, 12, 13, 14, 15, 16, 17, 18, 19, 20, 21, 10, 22, 23, 24, 25, 26, 27, 28, 29, 30, 31, 32, 33, 34, 35, 36, 37, 38, 39, 40, 52, 53, 54, 55, 56, 57, 58, 59, 60, 61, 62, 63, 64, 65, 66, 67, 45, 46, 47, 48, 49, 50, 51] (by decide +kernel) (by decide +kernel)
set_option maxRecDepth 20000 in
theorem gX5_count_X4_counted : GoodIn wsX5_count (wsV RX5 104 RX4 yX4_counted wsX4_counted) := goodIn_app (goodIn_of _ (by decide +kernel)) ggX5_count_X4_counted
set_option maxRecDepth 20000 in
theorem ggX5_count_X5_no : GoodIn wsX5_count wsX5_no := goodIn_r _ [44, 1, 45, 46, 47, 48, 49, 50, 51] (by decide +kernel) (by decide +kernel)
set_option maxRecDepth 20000 in
theorem gX5_count_X5_no : GoodIn wsX5_count (wsV RX5 45 RX5 yX5_no wsX5_no) := goodIn_app (goodIn_of _ (by decide +kernel)) ggX5_count_X5_no
set_option maxRecDepth 20000 in
theorem ggX5_hinders_X5_isIn : GoodIn wsX5_hinders wsX5_isIn := goodIn_r _ [7] (by decide +kernel) (by decide +kernel)
set_option maxRecDepth 20000 in
theorem gX5_hinders_X5_isIn : GoodIn wsX5_hinders (va_wsS RX5 38 yX5_isIn wsX5_isIn) := goodIn_app (goodIn_of _ (by decide +kernel)) ggX5_hinders_X5_isIn
set_option maxRecDepth 20000 in
theorem ggX5_hinders_X5_no : GoodIn wsX5_hinders wsX5_no := goodIn_r _ [11, 1, 24, 25, 26, 27, 28, 29, 30] (by decide +kernel) (by decide +kernel)
set_option maxRecDepth 20000 in
theorem gX5_hinders_X5_no : GoodIn wsX5_hinders (wsV RX5 45 RX5 yX5_no wsX5_no) := goodIn_app (goodIn_of _ (by decide +kernel)) ggX5_hinders_X5_no
set_option maxRecDepth 20000 in
theorem ggX5_hinders_X4_isInWay : GoodIn wsX5_hinders wsX4_isInWay := goodIn_r _ [16, 17, 18, 19, 20, 21, 15, 22, 23, 31, 32, 33, 34, 35, 36, 37, 38, 39, 40, 41, 42, 43, 44, 45, 46] (by decide +kernel) (by decide +kernel)
set_option maxRecDepth 20000 in
theorem gX5_hinders_X4_isInWay : GoodIn wsX5_hinders (wsV RX5 91 RX4 yX4_isInWay wsX4_isInWay) := goodIn_app (goodIn_of _ (by decide +kernel)) ggX5_hinders_X4_isInWay
set_option maxRecDepth 20000 in
theorem ggX5_richest_X4_isHeld : GoodIn wsX5_richest wsX4_isHeld := goodIn_r _ [8, 9, 17, 18, 19, 20, 21, 22, 23, 24, 25, 26, 27, 28, 29, 30, 31, 32] (by decide +kernel) (by decide +kernel)
set_option maxRecDepth 20000 in
theorem gX5_richest_X4_isHeld : GoodIn wsX5_richest (wsV RX5 62 RX4 yX4_isHeld wsX4_isHeld) := goodIn_app (goodIn_of _ (by decide +kernel)) ggX5_richest_X4_isHeld
set_option maxRecDepth 20000 in
theorem ggX5_pass_X5_isIn : GoodIn wsX5_pass wsX5_isIn := goodIn_r _ [6] (by decide +kernel) (by decide +kernel)
set_option maxRecDepth 20000 in
theorem gX5_pass_X5_isIn : GoodIn wsX5_pass (va_wsS RX5 38 yX5_isIn wsX5_isIn) := goodIn_app (goodIn_of _ (by decide +kernel)) ggX5_pass_X5_isIn
set_option maxRecDepth 20000 in
theorem ggX5_pass_X5_no : GoodIn wsX5_pass wsX5_no := goodIn_r _ [10, 1, 79, 80, 81, 82, 83, 84, 85] (by decide +kernel) (by decide +kernel)
set_option maxRecDepth 20000 in
theorem gX5_pass_X5_no : GoodIn wsX5_pass (wsV RX5 45 RX5 yX5_no wsX5_no) := goodIn_app (goodIn_of _ (by decide +kernel)) ggX5_pass_X5_no
set_option maxRecDepth 20000 in
theorem ggX5_pass_X4_pass_ : GoodIn wsX5_pass wsX4_pass_ := goodIn_r _ [15, 16, 17, 18, 14, 19, 20, 21, 22, 23, 24, 25, 26, 27, 28, 29, 30, 31, 32, 33, 34, 35, 36, 37, 38, 39, 40, 41, 42, 43, 44, 45, 46, 47, 48, 49, 50, 51, 52, 53, 54, 55, 56, 57, 58, 59, 60, 61, 62, 63, 64, 65, 66, 67, 68, 69, 70, 71, 72, 73, 74, 75, 76, 77, 78, 86, 87, 88, 89, 90, 91, 92, 93, 94, 95, 96, 97, 98, 99, 100, 101, 79, 80, 81, 82, 83, 84, 85] (by decide +kernel) (by decide +kernel)
set_option maxRecDepth 20000 in
theorem gX5_pass_X4_pass_ : GoodIn wsX5_pass (wsV RX5 110 RX4 yX4_pass_ wsX4_pass_) := goodIn_app (goodIn_of _ (by decide +kernel)) ggX5_pass_X4_pass_
set_option maxRecDepth 20000 in
theorem ggX5_catches_X5_isWeir : GoodIn wsX5_catches wsX5_isWeir := goodIn_r _ [8, 9, 10, 11, 7, 12, 66, 67, 68, 69, 70, 71, 72] (by decide +kernel) (by decide +kernel)
set_option maxRecDepth 20000 in
theorem gX5_catches_X5_isWeir : GoodIn wsX5_catches (wsV RX5 58 RX5 yX5_isWeir wsX5_isWeir) := goodIn_app (goodIn_of _ (by decide +kernel)) ggX5_catches_X5_isWeir
set_option maxRecDepth 20000 in
theorem ggX5_catches_X4_become : GoodIn wsX5_catches wsX4_become := goodIn_r _ [17, 18, 19, 20, 21, 22, 23, 24, 25, 26, 27, 28, 29, 30, 31, 32, 33, 34, 35, 16, 36, 37, 38, 39, 40, 73, 74, 75, 76, 77, 78, 79, 80, 81, 82, 83, 84, 85, 86, 87, 88] (by decide +kernel) (by decide +kernel)
set_option maxRecDepth 20000 in
theorem gX5_catches_X4_become : GoodIn wsX5_catches (wsV RX5 114 RX4 yX4_become wsX4_become) := goodIn_app (goodIn_of _ (by decide +kernel)) ggX5_catches_X4_become
