set_option maxRecDepth 20000 in
theorem ggX3_init_X1_init : GoodIn wsX3_init wsX1_init := goodIn_r _ [11, 12, 2, 3, 13, 14, 15, 16, 17, 18, 19, 20, 21, 22, 23, 24, 25, 26, 27, 28, 29, 30, 31, 32, 33, 34, 35, 36, 37, 38, 39, 42, 43, 44, 45, 46, 47, 48, 49, 50, 51, 52, 53] (by decide +kernel) (by decide +kernel)
set_option maxRecDepth 20000 in
theorem gX3_init_X1_init : GoodIn wsX3_init (wsX1_init) := ggX3_init_X1_init
set_option maxRecDepth 20000 in
theorem ggX3_weir_X3_isWithin : GoodIn wsX3_weir wsX3_isWithin := goodIn_r _ [10] (by decide +kernel) (by decide +kernel)
set_option maxRecDepth 20000 in
theorem gX3_weir_X3_isWithin : GoodIn wsX3_weir (va_wsS RX3 19 yX3_isWithin wsX3_isWithin) := goodIn_app (goodIn_of _ (by decide +kernel)) ggX3_weir_X3_isWithin
set_option maxRecDepth 20000 in
theorem ggX3_weir_X1_addWeir : GoodIn wsX3_weir wsX1_addWeir := goodIn_r _ [15, 16, 17, 18, 19, 14, 20, 21, 22, 23, 24, 25, 26, 27, 28, 29, 30, 31, 32, 33, 34, 35, 36, 37, 38, 39, 40, 41, 42, 43, 44, 47, 48, 49, 50, 51, 52, 53, 54, 55, 56, 57, 58, 59, 60, 61, 62, 63, 64] (by decide +kernel) (by decide +kernel)
set_option maxRecDepth 20000 in
theorem gX3_weir_X1_addWeir : GoodIn wsX3_weir (wsV RX3 39 RX1 yX1_addWeir wsX1_addWeir) := goodIn_app (goodIn_of _ (by decide +kernel)) ggX3_weir_X1_addWeir
set_option maxRecDepth 20000 in
theorem ggX3_gate_X1_weirAt : GoodIn wsX3_gate wsX1_weirAt := goodIn_r _ [11, 12, 13, 30, 31, 32, 33, 34, 35, 36, 37, 38, 39] (by decide +kernel) (by decide +kernel)
set_option maxRecDepth 20000 in
theorem gX3_gate_X1_weirAt : GoodIn wsX3_gate (wsV RX3 43 RX1 yX1_weirAt wsX1_weirAt) := goodIn_app (goodIn_of _ (by decide +kernel)) ggX3_gate_X1_weirAt
set_option maxRecDepth 20000 in
theorem ggX3_gate_X2_isHeld : GoodIn wsX3_gate wsX2_isHeld := goodIn_r _ [18, 19, 22, 23, 24, 25, 26, 27, 28, 29] (by decide +kernel) (by decide +kernel)
set_option maxRecDepth 20000 in
theorem gX3_gate_X2_isHeld : GoodIn wsX3_gate (wsV RX3 52 RX2 yX2_isHeld wsX2_isHeld) := goodIn_app (goodIn_of _ (by decide +kernel)) ggX3_gate_X2_isHeld
set_option maxRecDepth 20000 in
theorem ggX3_mend_X1_weirAt : GoodIn wsX3_mend wsX1_weirAt := goodIn_r _ [14, 15, 16, 37, 38, 39, 40, 41, 42, 43, 44, 45, 46] (by decide +kernel) (by decide +kernel)
set_option maxRecDepth 20000 in
theorem gX3_mend_X1_weirAt : GoodIn wsX3_mend (wsV RX3 43 RX1 yX1_weirAt wsX1_weirAt) := goodIn_app (goodIn_of _ (by decide +kernel)) ggX3_mend_X1_weirAt
set_option maxRecDepth 20000 in
theorem ggX3_mend_X3_isWithin : GoodIn wsX3_mend wsX3_isWithin := goodIn_r _ [20] (by decide +kernel) (by decide +kernel)
set_option maxRecDepth 20000 in
theorem gX3_mend_X3_isWithin : GoodIn wsX3_mend (va_wsS RX3 19 yX3_isWithin wsX3_isWithin) := goodIn_app (goodIn_of _ (by decide +kernel)) ggX3_mend_X3_isWithin
set_option maxRecDepth 20000 in
theorem ggX3_mend_X2_isHeld : GoodIn wsX3_mend wsX2_isHeld := goodIn_r _ [25, 26, 29, 30, 31, 32, 33, 34, 35, 36] (by decide +kernel) (by decide +kernel)
set_option maxRecDepth 20000 in
theorem gX3_mend_X2_isHeld : GoodIn wsX3_mend (wsV RX3 52 RX2 yX2_isHeld wsX2_isHeld) := goodIn_app (goodIn_of _ (by decide +kernel)) ggX3_mend_X2_isHeld
set_option maxRecDepth 20000 in
theorem ggX3_drive_X1_weirAt : GoodIn wsX3_drive wsX1_weirAt := goodIn_r _ [14, 15, 16, 37, 38, 39, 40, 41, 42, 43, 44, 45, 46] (by decide +kernel) (by decide +kernel)
set_option maxRecDepth 20000 in
theorem gX3_drive_X1_weirAt : GoodIn wsX3_drive (wsV RX3 43 RX1 yX1_weirAt wsX1_weirAt) := goodIn_app (goodIn_of _ (by decide +kernel)) ggX3_drive_X1_weirAt
set_option maxRecDepth 20000 in
theorem ggX3_drive_X3_isWithin : GoodIn wsX3_drive wsX3_isWithin := goodIn_r _ [20] (by decide +kernel) (by decide +kernel)
set_option maxRecDepth 20000 in
theorem gX3_drive_X3_isWithin : GoodIn wsX3_drive (va_wsS RX3 19 yX3_isWithin wsX3_isWithin) := goodIn_app (goodIn_of _ (by decide +kernel)) ggX3_drive_X3_isWithin
set_option maxRecDepth 20000 in
theorem ggX3_drive_X2_isHeld : GoodIn wsX3_drive wsX2_isHeld := goodIn_r _ [25, 26, 29, 30, 31, 32, 33, 34, 35, 36] (by decide +kernel) (by decide +kernel)
set_option maxRecDepth 20000 in
theorem gX3_drive_X2_isHeld : GoodIn wsX3_drive (wsV RX3 52 RX2 yX2_isHeld wsX2_isHeld) := goodIn_app (goodIn_of _ (by decide +kernel)) ggX3_drive_X2_isHeld
set_option maxRecDepth 20000 in
theorem ggX3_sell_X1_weirAt : GoodIn wsX3_sell wsX1_weirAt := goodIn_r _ [12, 13, 14, 44, 45, 46, 47, 48, 49, 50, 51, 52, 53] (by decide +kernel) (by decide +kernel)
set_option maxRecDepth 20000 in
theorem gX3_sell_X1_weirAt : GoodIn wsX3_sell (wsV RX3 43 RX1 yX1_weirAt wsX1_weirAt) := goodIn_app (goodIn_of _ (by decide +kernel)) ggX3_sell_X1_weirAt
set_option maxRecDepth 20000 in
theorem ggX3_sell_X2_isHeld : GoodIn wsX3_sell wsX2_isHeld := goodIn_r _ [19, 20, 36, 37, 38, 39, 40, 41, 42, 43] (by decide +kernel) (by decide +kernel)
set_option maxRecDepth 20000 in
theorem gX3_sell_X2_isHeld : GoodIn wsX3_sell (wsV RX3 52 RX2 yX2_isHeld wsX2_isHeld) := goodIn_app (goodIn_of _ (by decide +kernel)) ggX3_sell_X2_isHeld
set_option maxRecDepth 20000 in
theorem ggX3_sell_X1_moon : GoodIn wsX3_sell wsX1_moon := goodIn_r _ [24, 25, 26, 27, 28, 29, 44, 45, 46, 47, 48, 49, 50, 51, 52, 53] (by decide +kernel) (by decide +kernel)
set_option maxRecDepth 20000 in
theorem gX3_sell_X1_moon : GoodIn wsX3_sell (wsV RX3 86 RX1 yX1_moon wsX1_moon) := goodIn_app (goodIn_of _ (by decide +kernel)) ggX3_sell_X1_moon
set_option maxRecDepth 20000 in
theorem ggX3_sell_X3_priceOfEels : GoodIn wsX3_sell wsX3_priceOfEels := goodIn_r _ [33] (by decide +kernel) (by decide +kernel)
set_option maxRecDepth 20000 in
theorem gX3_sell_X3_priceOfEels : GoodIn wsX3_sell (va_wsS RX3 90 yX3_priceOfEels wsX3_priceOfEels) := goodIn_app (goodIn_of _ (by decide +kernel)) ggX3_sell_X3_priceOfEels
set_option maxRecDepth 20000 in
theorem ggX3_setRun_X3_isWithin : GoodIn wsX3_setRun wsX3_isWithin := goodIn_r _ [9] (by decide +kernel) (by decide +kernel)
set_option maxRecDepth 20000 in
theorem gX3_setRun_X3_isWithin : GoodIn wsX3_setRun (va_wsS RX3 19 yX3_isWithin wsX3_isWithin) := goodIn_app (goodIn_of _ (by decide +kernel)) ggX3_setRun_X3_isWithin
set_option maxRecDepth 20000 in
theorem ggX3_setRun_X1_tableEels : GoodIn wsX3_setRun wsX1_tableEels := goodIn_r _ [14, 15, 22, 23, 24, 25, 26, 27, 28, 29, 30, 31] (by decide +kernel) (by decide +kernel)
set_option maxRecDepth 20000 in
theorem gX3_setRun_X1_tableEels : GoodIn wsX3_setRun (wsV RX3 98 RX1 yX1_tableEels wsX1_tableEels) := goodIn_app (goodIn_of _ (by decide +kernel)) ggX3_setRun_X1_tableEels
set_option maxRecDepth 20000 in
theorem ggX3_setRun_X1_setTableEels : GoodIn wsX3_setRun wsX1_setTableEels := goodIn_r _ [19, 15, 22, 23, 24, 25, 26, 27, 28, 29, 30, 31] (by decide +kernel) (by decide +kernel)
set_option maxRecDepth 20000 in
theorem gX3_setRun_X1_setTableEels : GoodIn wsX3_setRun (wsV RX3 102 RX1 yX1_setTableEels wsX1_setTableEels) := goodIn_app (goodIn_of _ (by decide +kernel)) ggX3_setRun_X1_setTableEels
set_option maxRecDepth 20000 in
theorem ggX3_barge_X3_isWithin : GoodIn wsX3_barge wsX3_isWithin := goodIn_r _ [10] (by decide +kernel) (by decide +kernel)
set_option maxRecDepth 20000 in
theorem gX3_barge_X3_isWithin : GoodIn wsX3_barge (va_wsS RX3 19 yX3_isWithin wsX3_isWithin) := goodIn_app (goodIn_of _ (by decide +kernel)) ggX3_barge_X3_isWithin
set_option maxRecDepth 20000 in
theorem ggX3_barge_X1_addBarge : GoodIn wsX3_barge wsX1_addBarge := goodIn_r _ [15, 16, 17, 18, 19, 20, 14, 21, 22, 23, 24, 25, 26, 27, 28, 29, 30, 31, 34, 35, 36, 37, 38, 39, 40, 41, 42, 43, 44, 45, 46, 47] (by decide +kernel) (by decide +kernel)
set_option maxRecDepth 20000 in
theorem gX3_barge_X1_addBarge : GoodIn wsX3_barge (wsV RX3 113 RX1 yX1_addBarge wsX1_addBarge) := goodIn_app (goodIn_of _ (by decide +kernel)) ggX3_barge_X1_addBarge
set_option maxRecDepth 20000 in
theorem ggX3_about_X1_weirAt : GoodIn wsX3_about wsX1_weirAt := goodIn_r _ [8, 9, 10, 30, 31, 32, 33, 34, 35, 36, 37, 38, 39] (by decide +kernel) (by decide +kernel)
set_option maxRecDepth 20000 in
theorem gX3_about_X1_weirAt : GoodIn wsX3_about (wsV RX3 43 RX1 yX1_weirAt wsX1_weirAt) := goodIn_app (goodIn_of _ (by decide +kernel)) ggX3_about_X1_weirAt
set_option maxRecDepth 20000 in
theorem ggX3_about_X3_isWithin : GoodIn wsX3_about wsX3_isWithin := goodIn_r _ [14] (by decide +kernel) (by decide +kernel)
set_option maxRecDepth 20000 in
theorem gX3_about_X3_isWithin : GoodIn wsX3_about (va_wsS RX3 19 yX3_isWithin wsX3_isWithin) := goodIn_app (goodIn_of _ (by decide +kernel)) ggX3_about_X3_isWithin
set_option maxRecDepth 20000 in
theorem ggX3_about_X2_fact : GoodIn wsX3_about wsX2_fact := goodIn_r _ [19, 20, 21, 22, 23, 24, 25, 26, 27, 40, 41, 42, 43, 44, 45, 46, 47] (by decide +kernel) (by decide +kernel)
set_option maxRecDepth 20000 in
theorem gX3_about_X2_fact : GoodIn wsX3_about (wsV RX3 118 RX2 yX2_fact wsX2_fact) := goodIn_app (goodIn_of _ (by decide +kernel)) ggX3_about_X2_fact
set_option maxRecDepth 20000 in
theorem ggX3_told_X1_bargeAt : GoodIn wsX3_told wsX1_bargeAt := goodIn_r _ [8, 9, 10, 47, 48, 49, 50, 51, 52, 53, 54, 55, 56] (by decide +kernel) (by decide +kernel)
set_option maxRecDepth 20000 in
theorem gX3_told_X1_bargeAt : GoodIn wsX3_told (wsV RX3 121 RX1 yX1_bargeAt wsX1_bargeAt) := goodIn_app (goodIn_of _ (by decide +kernel)) ggX3_told_X1_bargeAt
set_option maxRecDepth 20000 in
theorem ggX3_told_X3_isWithin : GoodIn wsX3_told wsX3_isWithin := goodIn_r _ [14] (by decide +kernel) (by decide +kernel)
set_option maxRecDepth 20000 in
theorem gX3_told_X3_isWithin : GoodIn wsX3_told (va_wsS RX3 19 yX3_isWithin wsX3_isWithin) := goodIn_app (goodIn_of _ (by decide +kernel)) ggX3_told_X3_isWithin
set_option maxRecDepth 20000 in
theorem ggX3_told_X1_bargeFact : GoodIn wsX3_told wsX1_bargeFact := goodIn_r _ [18, 19, 20, 21, 22, 23, 24, 7, 25, 26, 27, 28, 29, 30, 31, 32, 33, 34, 35, 36, 37, 38, 39, 40, 41, 42, 43, 44, 57, 58, 59, 60, 47, 48, 49, 50, 51, 52, 53, 54, 55, 56, 61, 62, 63, 64, 65, 66, 67, 68] (by decide +kernel) (by decide +kernel)
set_option maxRecDepth 20000 in
theorem gX3_told_X1_bargeFact : GoodIn wsX3_told (wsV RX3 127 RX1 yX1_bargeFact wsX1_bargeFact) := goodIn_app (goodIn_of _ (by decide +kernel)) ggX3_told_X1_bargeFact
set_option maxRecDepth 20000 in
theorem ggX3_count_X3_isWithin : GoodIn wsX3_count wsX3_isWithin := goodIn_r _ [7] (by decide +kernel) (by decide +kernel)
set_option maxRecDepth 20000 in
theorem gX3_count_X3_isWithin : GoodIn wsX3_count (va_wsS RX3 19 yX3_isWithin wsX3_isWithin) := goodIn_app (goodIn_of _ (by decide +kernel)) ggX3_count_X3_isWithin
set_option maxRecDepth 20000 in
theorem ggX3_count_X1_fact : GoodIn wsX3_count wsX1_fact := goodIn_r _ [12, 13, 14, 15, 16, 17, 18, 19, 20, 21, 11, 22, 23, 24, 25, 26, 27, 28, 29, 30, 31, 32, 33, 34, 35, 36, 37, 38, 39, 40, 41, 42, 43, 44, 45, 46, 47, 48, 49, 50, 51, 52, 53, 54, 55, 58, 59, 60, 61, 62, 63, 64, 65, 66, 67, 68, 69, 70, 71, 72, 73, 74, 75] (by decide +kernel) (by decide +kernel)
set_option maxRecDepth 20000 in
theorem gX3_count_X1_fact : GoodIn wsX3_count (wsV RX3 133 RX1 yX1_fact wsX1_fact) := goodIn_app (goodIn_of _ (by decide +kernel)) ggX3_count_X1_fact
set_option maxRecDepth 20000 in
theorem ggX3_hinders_X3_isWithin : GoodIn wsX3_hinders wsX3_isWithin := goodIn_r _ [7] (by decide +kernel) (by decide +kernel)
set_option maxRecDepth 20000 in
theorem gX3_hinders_X3_isWithin : GoodIn wsX3_hinders (va_wsS RX3 19 yX3_isWithin wsX3_isWithin) := goodIn_app (goodIn_of _ (by decide +kernel)) ggX3_hinders_X3_isWithin
set_option maxRecDepth 20000 in
theorem ggX3_hinders_X1_weirsInWay : GoodIn wsX3_hinders wsX1_weirsInWay := goodIn_r _ [12, 13, 14, 15, 16, 11, 17, 18, 19, 20, 21, 22, 23, 24, 25, 26, 27, 28, 29, 30, 33, 34, 35, 36, 37, 38, 39, 40, 41, 42, 43, 44, 45, 46, 47, 48, 49, 50] (by decide +kernel) (by decide +kernel)
set_option maxRecDepth 20000 in
theorem gX3_hinders_X1_weirsInWay : GoodIn wsX3_hinders (wsV RX3 134 RX1 yX1_weirsInWay wsX1_weirsInWay) := goodIn_app (goodIn_of _ (by decide +kernel)) ggX3_hinders_X1_weirsInWay
set_option maxRecDepth 20000 in
theorem ggX3_richest_X1_richestHeld : GoodIn wsX3_richest wsX1_richestHeld := goodIn_r _ [6, 7, 8, 9, 10, 11, 5, 12, 13, 14, 15, 16, 17, 18, 19, 22, 23, 24, 25, 26, 27, 28, 29, 30, 31, 32, 33, 34, 35, 36, 37, 38, 39] (by decide +kernel) (by decide +kernel)
set_option maxRecDepth 20000 in
theorem gX3_richest_X1_richestHeld : GoodIn wsX3_richest (wsV RX3 137 RX1 yX1_richestHeld wsX1_richestHeld) := goodIn_app (goodIn_of _ (by decide +kernel)) ggX3_richest_X1_richestHeld
set_option maxRecDepth 20000 in
theorem ggX3_pass_X3_isWithin : GoodIn wsX3_pass wsX3_isWithin := goodIn_r _ [8] (by decide +kernel) (by decide +kernel)
set_option maxRecDepth 20000 in
theorem gX3_pass_X3_isWithin : GoodIn wsX3_pass (va_wsS RX3 19 yX3_isWithin wsX3_isWithin) := goodIn_app (goodIn_of _ (by decide +kernel)) ggX3_pass_X3_isWithin
set_option maxRecDepth 20000 in
theorem ggX3_pass_X1_goThroughNights : GoodIn wsX3_pass wsX1_goThroughNights := goodIn_r _ [13, 14, 15, 16, 17, 12, 18, 19, 20, 21, 22, 23, 24, 25, 26, 27, 28, 29, 30, 31, 32, 33, 34, 35, 36, 37, 38, 39, 40, 41, 42, 43, 44, 45, 46, 47, 48, 49, 50, 51, 52, 53, 54, 55, 56, 57, 58, 59, 60, 61, 62, 63, 64, 65, 66, 67, 68, 69, 70, 71, 72, 73, 74, 75, 76, 77, 78, 79, 80, 81, 82, 83, 84, 85, 86, 87, 88, 89, 90, 91, 92, 93, 94, 95, 96, 97, 98, 99, 100, 101, 102, 103, 104, 105, 106, 107, 108, 109, 110, 111, 112, 113, 114, 115, 116, 117, 118, 119, 120, 121, 122, 123, 124, 125, 126, 127, 128, 129, 130, 131, 132, 133, 134, 135, 136, 137, 138, 139, 140, 141, 142, 145, 146, 147, 148, 149, 150, 151, 152, 153, 154, 155, 156, 157, 158, 159, 160, 161, 162, 163, 164, 165, 166] (by decide +kernel) (by decide +kernel)
set_option maxRecDepth 20000 in
theorem gX3_pass_X1_goThroughNights : GoodIn wsX3_pass (wsV RX3 145 RX1 yX1_goThroughNights wsX1_goThroughNights) := goodIn_app (goodIn_of _ (by decide +kernel)) ggX3_pass_X1_goThroughNights
set_option maxRecDepth 20000 in
theorem ggX3_catches_X1_weirAt : GoodIn wsX3_catches wsX1_weirAt := goodIn_r _ [10, 11, 12, 104, 105, 106, 107, 108, 109, 110, 111, 112, 113] (by decide +kernel) (by decide +kernel)
set_option maxRecDepth 20000 in
theorem gX3_catches_X1_weirAt : GoodIn wsX3_catches (wsV RX3 43 RX1 yX1_weirAt wsX1_weirAt) := goodIn_app (goodIn_of _ (by decide +kernel)) ggX3_catches_X1_weirAt
set_option maxRecDepth 20000 in
theorem ggX3_catches_X1_copyFrom : GoodIn wsX3_catches wsX1_copyFrom := goodIn_r _ [16, 17, 18, 11, 19, 20, 21, 22, 23, 24, 25, 26, 9, 27, 28, 29, 30, 31, 32, 7, 8, 10, 12, 33, 34, 35, 36, 37, 38, 39, 40, 41, 42, 43, 44, 45, 46, 47, 48, 49, 50, 51, 52, 53, 54, 55, 56, 57, 58, 59, 60, 61, 62, 63, 64, 65, 104, 105, 106, 107, 108, 109, 110, 111, 112, 113, 96, 97, 98, 99, 100, 101, 102, 103, 114, 115, 116, 117] (by decide +kernel) (by decide +kernel)
set_option maxRecDepth 20000 in
theorem gX3_catches_X1_copyFrom : GoodIn wsX3_catches (wsV RX3 149 RX1 yX1_copyFrom wsX1_copyFrom) := goodIn_app (goodIn_of _ (by decide +kernel)) ggX3_catches_X1_copyFrom
set_option maxRecDepth 20000 in
theorem ggX3_catches_X1_catchEels : GoodIn wsX3_catches wsX1_catchEels := goodIn_r _ [69, 11, 70, 71, 72, 9, 73, 20, 74, 75, 76, 77, 24, 25, 26, 27, 17, 78, 79, 80, 81, 28, 29, 30, 31, 18, 32, 7, 8, 10, 12, 82, 83, 84, 39, 85, 48, 47, 86, 87, 88, 89, 42, 43, 46, 90, 91, 92, 93, 104, 105, 106, 107, 108, 109, 110, 111, 112, 113, 96, 97, 98, 99, 100, 101, 102, 103] (by decide +kernel) (by decide +kernel)
set_option maxRecDepth 20000 in
theorem gX3_catches_X1_catchEels : GoodIn wsX3_catches (wsV RX3 153 RX1 yX1_catchEels wsX1_catchEels) := goodIn_app (goodIn_of _ (by decide +kernel)) ggX3_catches_X1_catchEels
set_option maxRecDepth 20000 in
theorem ggX3_arrives_X1_bargeAt : GoodIn wsX3_arrives wsX1_bargeAt := goodIn_r _ [10, 11, 12, 164, 165, 166, 167, 168, 169, 170, 171, 172, 173] (by decide +kernel) (by decide +kernel)
set_option maxRecDepth 20000 in
theorem gX3_arrives_X1_bargeAt : GoodIn wsX3_arrives (wsV RX3 121 RX1 yX1_bargeAt wsX1_bargeAt) := goodIn_app (goodIn_of _ (by decide +kernel)) ggX3_arrives_X1_bargeAt
set_option maxRecDepth 20000 in
theorem ggX3_arrives_X1_copyFrom : GoodIn wsX3_arrives wsX1_copyFrom := goodIn_r _ [16, 17, 18, 19, 11, 20, 21, 22, 23, 24, 25, 26, 9, 27, 28, 29, 30, 31, 32, 33, 34, 35, 36, 37, 38, 39, 40, 41, 42, 43, 44, 45, 46, 47, 48, 49, 50, 51, 52, 53, 7, 8, 10, 12, 54, 55, 56, 57, 58, 59, 60, 61, 62, 63, 64, 65, 164, 165, 166, 167, 168, 169, 170, 171, 172, 173, 174, 175, 176, 177, 178, 179, 180, 181, 160, 161, 162, 163] (by decide +kernel) (by decide +kernel)
set_option maxRecDepth 20000 in
theorem gX3_arrives_X1_copyFrom : GoodIn wsX3_arrives (wsV RX3 149 RX1 yX1_copyFrom wsX1_copyFrom) := goodIn_app (goodIn_of _ (by decide +kernel)) ggX3_arrives_X1_copyFrom
set_option maxRecDepth 20000 in
theorem ggX3_arrives_X1_isUnderWay : GoodIn wsX3_arrives wsX1_isUnderWay := goodIn_r _ [69, 11, 70, 53, 7, 8, 9, 10, 12, 164, 165, 166, 167, 168, 169, 170, 171, 172, 173, 160, 161, 162, 163] (by decide +kernel) (by decide +kernel)
set_option maxRecDepth 20000 in
theorem gX3_arrives_X1_isUnderWay : GoodIn wsX3_arrives (wsV RX3 163 RX1 yX1_isUnderWay wsX1_isUnderWay) := goodIn_app (goodIn_of _ (by decide +kernel)) ggX3_arrives_X1_isUnderWay
set_option maxRecDepth 20000 in
theorem ggX3_arrives_X1_goThroughNights : GoodIn wsX3_arrives wsX1_goThroughNights := goodIn_r _ [74, 20, 75, 76, 77, 9, 78, 19, 79, 80, 81, 82, 83, 84, 85, 86, 24, 25, 26, 27, 17, 87, 88, 89, 90, 28, 29, 30, 31, 18, 32, 33, 34, 35, 36, 91, 92, 93, 43, 94, 52, 51, 95, 96, 97, 98, 46, 47, 50, 99, 100, 101, 102, 103, 104, 105, 106, 11, 107, 53, 7, 8, 10, 12, 108, 109, 110, 111, 112, 113, 114, 115, 116, 117, 118, 119, 120, 121, 60, 122, 64, 123, 124, 125, 126, 127, 22, 128, 129, 130, 131, 132, 49, 133, 134, 135, 136, 137, 138, 139, 140, 21, 54, 55, 56, 57, 58, 59, 61, 62, 63, 65, 141, 142, 143, 144, 145, 146, 147, 148, 149, 150, 151, 152, 153, 23, 154, 155, 156, 157, 48, 164, 165, 166, 167, 168, 169, 170, 171, 172, 173, 174, 175, 176, 177, 178, 179, 180, 181, 160, 161, 162, 163] (by decide +kernel) (by decide +kernel)
set_option maxRecDepth 20000 in
theorem gX3_arrives_X1_goThroughNights : GoodIn wsX3_arrives (wsV RX3 145 RX1 yX1_goThroughNights wsX1_goThroughNights) := goodIn_app (goodIn_of _ (by decide +kernel)) ggX3_arrives_X1_goThroughNights
set_option maxRecDepth 20000 in
theorem ggX3_lasts_X1_weirAt : GoodIn wsX3_lasts wsX1_weirAt := goodIn_r _ [10, 11, 12, 164, 165, 166, 167, 168, 169, 170, 171, 172, 173] (by decide +kernel) (by decide +kernel)
set_option maxRecDepth 20000 in
theorem gX3_lasts_X1_weirAt : GoodIn wsX3_lasts (wsV RX3 43 RX1 yX1_weirAt wsX1_weirAt) := goodIn_app (goodIn_of _ (by decide +kernel)) ggX3_lasts_X1_weirAt
set_option maxRecDepth 20000 in
theorem ggX3_lasts_X1_copyFrom : GoodIn wsX3_lasts wsX1_copyFrom := goodIn_r _ [16, 17, 18, 11, 19, 20, 21, 22, 23, 24, 25, 26, 9, 27, 28, 29, 30, 31, 32, 7, 8, 10, 12, 33, 34, 35, 36, 37, 38, 39, 40, 41, 42, 43, 44, 45, 46, 47, 48, 49, 50, 51, 52, 53, 54, 55, 56, 57, 58, 59, 60, 61, 62, 63, 64, 65, 164, 165, 166, 167, 168, 169, 170, 171, 172, 173, 156, 157, 158, 159, 160, 161, 162, 163, 174, 175, 176, 177] (by decide +kernel) (by decide +kernel)
set_option maxRecDepth 20000 in
theorem gX3_lasts_X1_copyFrom : GoodIn wsX3_lasts (wsV RX3 149 RX1 yX1_copyFrom wsX1_copyFrom) := goodIn_app (goodIn_of _ (by decide +kernel)) ggX3_lasts_X1_copyFrom
set_option maxRecDepth 20000 in
theorem ggX3_lasts_X2_isHeld : GoodIn wsX3_lasts wsX2_isHeld := goodIn_r _ [69, 48, 156, 157, 158, 159, 160, 161, 162, 163] (by decide +kernel) (by decide +kernel)
set_option maxRecDepth 20000 in
theorem gX3_lasts_X2_isHeld : GoodIn wsX3_lasts (wsV RX3 52 RX2 yX2_isHeld wsX2_isHeld) := goodIn_app (goodIn_of _ (by decide +kernel)) ggX3_lasts_X2_isHeld
set_option maxRecDepth 20000 in
theorem ggX3_lasts_X1_goThroughNights : GoodIn wsX3_lasts wsX1_goThroughNights := goodIn_r _ [73, 20, 74, 75, 76, 9, 77, 11, 78, 79, 80, 81, 82, 83, 84, 85, 24, 25, 26, 27, 17, 86, 87, 88, 89, 28, 29, 30, 31, 18, 32, 7, 8, 10, 12, 90, 91, 92, 39, 93, 48, 47, 94, 95, 96, 97, 42, 43, 46, 98, 99, 100, 101, 102, 103, 104, 105, 19, 106, 49, 50, 51, 52, 53, 107, 108, 109, 110, 111, 112, 113, 114, 115, 116, 117, 118, 119, 120, 60, 121, 64, 122, 123, 124, 125, 126, 22, 127, 128, 129, 130, 131, 45, 132, 133, 134, 135, 136, 137, 138, 139, 21, 54, 55, 56, 57, 58, 59, 61, 62, 63, 65, 140, 141, 142, 143, 144, 67, 68, 69, 145, 146, 147, 148, 149, 23, 150, 151, 152, 153, 44, 164, 165, 166, 167, 168, 169, 170, 171, 172, 173, 156, 157, 158, 159, 160, 161, 162, 163, 174, 175, 176, 177] (by decide +kernel) (by decide +kernel)
set_option maxRecDepth 20000 in
theorem gX3_lasts_X1_goThroughNights : GoodIn wsX3_lasts (wsV RX3 145 RX1 yX1_goThroughNights wsX1_goThroughNights) := goodIn_app (goodIn_of _ (by decide +kernel)) ggX3_lasts_X1_goThroughNights
set_option maxRecDepth 20000 in
theorem ggX3_foresee_X3_isWithin : GoodIn wsX3_foresee wsX3_isWithin := goodIn_r _ [10] (by decide +kernel) (by decide +kernel)
set_option maxRecDepth 20000 in
theorem gX3_foresee_X3_isWithin : GoodIn wsX3_foresee (va_wsS RX3 19 yX3_isWithin wsX3_isWithin) := goodIn_app (goodIn_of _ (by decide +kernel)) ggX3_foresee_X3_isWithin
