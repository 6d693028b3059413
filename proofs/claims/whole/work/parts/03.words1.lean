set_option maxRecDepth 20000 in
theorem ggX3_mend_X2_isHeld : GoodIn wsX3_mend wsX2_isHeld := goodIn_r _ [25, 26, 29, 30, 31, 32, 33, 34, 35, 36] (by decide +kernel) (by decide +kernel)
set_option maxRecDepth 20000 in
theorem gX3_mend_X2_isHeld : GoodIn wsX3_mend (wsV RX3 52 RX2 yX2_isHeld wsX2_isHeld) := goodIn_app (goodIn_of _ (by decide +kernel)) ggX3_mend_X2_isHeld
set_option maxRecDepth 20000 in
theorem ggX3_drive_X1_weirAt : GoodIn wsX3_drive wsX1_weirAt := goodIn_r _ [14, 15, 16, 37, 38, 39, 40, 41, 42, 43, 44, 45, 46] (by decide +kernel) (by decide +kernel)
set_option maxRecDepth 20000 in
theorem gX3_drive_X1_weirAt : GoodIn wsX3_drive (wsV RX3 43 RX1 yX1_weirAt wsX1_weirAt) := goodIn_app (goodIn_of _ (by decide +kernel)) ggX3_drive_X1_weirAt
set_option maxRecDepth 20000 in
theorem ggX3_drive_X3_isWithin : GoodIn wsX3_drive wsX3_isWithin := goodIn_r _ [20] (by decide +kernel) (by decide +kernel)
set_option maxRecDepth 20000 in
theorem gX3_drive_X3_isWithin : GoodIn wsX3_drive (va_wsS RX3 19 yX3_isWithin wsX3_isWithin) := goodIn_app (goodIn_of _ (by decide +kernel)) ggX3_drive_X3_isWithin
set_option maxRecDepth 20000 in
theorem ggX3_drive_X2_isHeld : GoodIn wsX3_drive wsX2_isHeld := goodIn_r _ [25, 26, 29, 30, 31, 32, 33, 34, 35, 36] (by decide +kernel) (by decide +kernel)
set_option maxRecDepth 20000 in
theorem gX3_drive_X2_isHeld : GoodIn wsX3_drive (wsV RX3 52 RX2 yX2_isHeld wsX2_isHeld) := goodIn_app (goodIn_of _ (by decide +kernel)) ggX3_drive_X2_isHeld
set_option maxRecDepth 20000 in
theorem ggX3_sell_X1_weirAt : GoodIn wsX3_sell wsX1_weirAt := goodIn_r _ [12, 13, 14, 44, 45, 46, 47, 48, 49, 50, 51, 52, 53] (by decide +kernel) (by decide +kernel)
set_option maxRecDepth 20000 in
theorem gX3_sell_X1_weirAt : GoodIn wsX3_sell (wsV RX3 43 RX1 yX1_weirAt wsX1_weirAt) := goodIn_app (goodIn_of _ (by decide +kernel)) ggX3_sell_X1_weirAt
set_option maxRecDepth 20000 in
theorem ggX3_sell_X2_isHeld : GoodIn wsX3_sell wsX2_isHeld := goodIn_r _ [19, 20, 36, 37, 38, 39, 40, 41, 42, 43] (by decide +kernel) (by decide +kernel)
set_option maxRecDepth 20000 in
theorem gX3_sell_X2_isHeld : GoodIn wsX3_sell (wsV RX3 52 RX2 yX2_isHeld wsX2_isHeld) := goodIn_app (goodIn_of _ (by decide +kernel)) ggX3_sell_X2_isHeld
set_option maxRecDepth 20000 in
theorem ggX3_sell_X1_moon : GoodIn wsX3_sell wsX1_moon := goodIn_r _ [24, 25, 26, 27, 28, 29, 44, 45, 46, 47, 48, 49, 50, 51, 52, 53] (by decide +kernel) (by decide +kernel)
set_option maxRecDepth 20000 in
theorem gX3_sell_X1_moon : GoodIn wsX3_sell (wsV RX3 86 RX1 yX1_moon wsX1_moon) := goodIn_app (goodIn_of _ (by decide +kernel)) ggX3_sell_X1_moon
set_option maxRecDepth 20000 in
theorem ggX3_sell_X3_priceOfEels : GoodIn wsX3_sell wsX3_priceOfEels := goodIn_r _ [33] (by decide +kernel) (by decide +kernel)
set_option maxRecDepth 20000 in
theorem gX3_sell_X3_priceOfEels : GoodIn wsX3_sell (va_wsS RX3 90 yX3_priceOfEels wsX3_priceOfEels) := goodIn_app (goodIn_of _ (by decide +kernel)) ggX3_sell_X3_priceOfEels
set_option maxRecDepth 20000 in
theorem ggX3_setRun_X3_isWithin : GoodIn wsX3_setRun wsX3_isWithin := goodIn_r _ [9] (by decide +kernel) (by decide +kernel)
set_option maxRecDepth 20000 in
theorem gX3_setRun_X3_isWithin : GoodIn wsX3_setRun (va_wsS RX3 19 yX3_isWithin wsX3_isWithin) := goodIn_app (goodIn_of _ (by decide +kernel)) ggX3_setRun_X3_isWithin
set_option maxRecDepth 20000 in
theorem ggX3_setRun_X1_tableEels : GoodIn wsX3_setRun wsX1_tableEels := goodIn_r _ [14, 15, 22, 23, 24, 25, 26, 27, 28, 29, 30, 31] (by decide +kernel) (by decide +kernel)
set_option maxRecDepth 20000 in
theorem gX3_setRun_X1_tableEels : GoodIn wsX3_setRun (wsV RX3 98 RX1 yX1_tableEels wsX1_tableEels) := goodIn_app (goodIn_of _ (by decide +kernel)) ggX3_setRun_X1_tableEels
set_option maxRecDepth 20000 in
theorem ggX3_setRun_X1_setTableEels : GoodIn wsX3_setRun wsX1_setTableEels := goodIn_r _ [19, 15, 22, 23, 24, 25, 26, 27, 28, 29, 30, 31] (by decide +kernel) (by decide +kernel)
set_option maxRecDepth 20000 in
theorem gX3_setRun_X1_setTableEels : GoodIn wsX3_setRun (wsV RX3 102 RX1 yX1_setTableEels wsX1_setTableEels) := goodIn_app (goodIn_of _ (by decide +kernel)) ggX3_setRun_X1_setTableEels
set_option maxRecDepth 20000 in
theorem ggX3_barge_X3_isWithin : GoodIn wsX3_barge wsX3_isWithin := goodIn_r _ [10] (by decide +kernel) (by decide +kernel)
set_option maxRecDepth 20000 in
theorem gX3_barge_X3_isWithin : GoodIn wsX3_barge (va_wsS RX3 19 yX3_isWithin wsX3_isWithin) := goodIn_app (goodIn_of _ (by decide +kernel)) ggX3_barge_X3_isWithin
set_option maxRecDepth 20000 in
theorem ggX3_barge_X1_addBarge : GoodIn wsX3_barge wsX1_addBarge := goodIn_r _ [15, 16, 17, 18, 19, 20, 14, 21, 22, 23, 24, 25, 26, 27, 28, 29, 30, 31, 34, 35, 36, 37, 38, 39, 40, 41, 42, 43, 44, 45, 46, 47] (by decide +kernel) (by decide +kernel)
set_option maxRecDepth 20000 in
theorem gX3_barge_X1_addBarge : GoodIn wsX3_barge (wsV RX3 113 RX1 yX1_addBarge wsX1_addBarge) := goodIn_app (goodIn_of _ (by decide +kernel)) ggX3_barge_X1_addBarge
set_option maxRecDepth 20000 in
theorem ggX3_about_X1_weirAt : GoodIn wsX3_about wsX1_weirAt := goodIn_r _ [8, 9, 10, 30, 31, 32, 33, 34, 35, 36, 37, 38, 39] (by decide +kernel) (by decide +kernel)
set_option maxRecDepth 20000 in
theorem gX3_about_X1_weirAt : GoodIn wsX3_about (wsV RX3 43 RX1 yX1_weirAt wsX1_weirAt) := goodIn_app (goodIn_of _ (by decide +kernel)) ggX3_about_X1_weirAt
set_option maxRecDepth 20000 in
theorem ggX3_about_X3_isWithin : GoodIn wsX3_about wsX3_isWithin := goodIn_r _ [14] (by decide +kernel) (by decide +kernel)
set_option maxRecDepth 20000 in
theorem gX3_about_X3_isWithin : GoodIn wsX3_about (va_wsS RX3 19 yX3_isWithin wsX3_isWithin) := goodIn_app (goodIn_of _ (by decide +kernel)) ggX3_about_X3_isWithin
set_option maxRecDepth 20000 in
theorem ggX3_about_X2_fact : GoodIn wsX3_about wsX2_fact := goodIn_r _ [19, 20, 21, 22, 23, 24, 25, 26, 27, 40, 41, 42, 43, 44, 45, 46, 47] (by decide +kernel) (by decide +kernel)
set_option maxRecDepth 20000 in
theorem gX3_about_X2_fact : GoodIn wsX3_about (wsV RX3 118 RX2 yX2_fact wsX2_fact) := goodIn_app (goodIn_of _ (by decide +kernel)) ggX3_about_X2_fact
set_option maxRecDepth 20000 in
theorem ggX3_told_X1_bargeAt : GoodIn wsX3_told wsX1_bargeAt := goodIn_r _ [8, 9, 10, 47, 48, 49, 50, 51, 52, 53, 54, 55, 56] (by decide +kernel) (by decide +kernel)
set_option maxRecDepth 20000 in
theorem gX3_told_X1_bargeAt : GoodIn wsX3_told (wsV RX3 121 RX1 yX1_bargeAt wsX1_bargeAt) := goodIn_app (goodIn_of _ (by decide +kernel)) ggX3_told_X1_bargeAt
set_option maxRecDepth 20000 in
theorem ggX3_told_X3_isWithin : GoodIn wsX3_told wsX3_isWithin := goodIn_r _ [14] (by decide +kernel) (by decide +kernel)
set_option maxRecDepth 20000 in
theorem gX3_told_X3_isWithin : GoodIn wsX3_told (va_wsS RX3 19 yX3_isWithin wsX3_isWithin) := goodIn_app (goodIn_of _ (by decide +kernel)) ggX3_told_X3_isWithin
set_option maxRecDepth 20000 in
theorem ggX3_told_X1_bargeFact : GoodIn wsX3_told wsX1_bargeFact := goodIn_r _ [18, 19, 20, 21, 22, 23, 24, 7, 25, 26, 27, 28, 29, 30, 31, 32, 33, 34, 35, 36, 37, 38, 39, 40, 41, 42, 43, 44, 57, 58, 59, 60, 47, 48, 49, 50, 51, 52, 53, 54, 55, 56, 61, 62, 63, 64, 65, 66, 67, 68] (by decide +kernel) (by decide +kernel)
set_option maxRecDepth 20000 in
theorem gX3_told_X1_bargeFact : GoodIn wsX3_told (wsV RX3 127 RX1 yX1_bargeFact wsX1_bargeFact) := goodIn_app (goodIn_of _ (by decide +kernel)) ggX3_told_X1_bargeFact
set_option maxRecDepth 20000 in
theorem ggX3_count_X3_isWithin : GoodIn wsX3_count wsX3_isWithin := goodIn_r _ [7] (by decide +kernel) (by decide +kernel)
set_option maxRecDepth 20000 in
theorem gX3_count_X3_isWithin : GoodIn wsX3_count (va_wsS RX3 19 yX3_isWithin wsX3_isWithin) := goodIn_app (goodIn_of _ (by decide +kernel)) ggX3_count_X3_isWithin
set_option maxRecDepth 20000 in
theorem ggX3_count_X1_fact : GoodIn wsX3_count wsX1_fact := goodIn_r _ [12, 13, 14, 15, 16, 17, 18, 19, 20, 21, 11, 22, 23, 24, 25, 26, 27, 28, 29, 30, 31, 32, 33, 34, 35, 36, 37, 38, 39, 40, 41, 42, 43, 44, 45, 46, 47, 48, 49, 50, 51, 52, 53, 54, 55, 58, 59, 60, 61, 62, 63, 64, 65, 66, 67, 68, 69, 70, 71, 72, 73, 74, 75] (by decide +kernel) (by decide +kernel)
set_option maxRecDepth 20000 in
theorem gX3_count_X1_fact : GoodIn wsX3_count (wsV RX3 133 RX1 yX1_fact wsX1_fact) := goodIn_app (goodIn_of _ (by decide +kernel)) ggX3_count_X1_fact
set_option maxRecDepth 20000 in
theorem ggX3_hinders_X3_isWithin : GoodIn wsX3_hinders wsX3_isWithin := goodIn_r _ [7] (by decide +kernel) (by decide +kernel)
set_option maxRecDepth 20000 in
theorem gX3_hinders_X3_isWithin : GoodIn wsX3_hinders (va_wsS RX3 19 yX3_isWithin wsX3_isWithin) := goodIn_app (goodIn_of _ (by decide +kernel)) ggX3_hinders_X3_isWithin
set_option maxRecDepth 20000 in
theorem ggX3_hinders_X1_weirsInWay : GoodIn wsX3_hinders wsX1_weirsInWay := goodIn_r _ [12, 13, 14, 15, 16, 11, 17, 18, 19, 20, 21, 22, 23, 24, 25, 26, 27, 28, 29, 30, 33, 34, 35, 36, 37, 38, 39, 40, 41, 42, 43, 44, 45, 46, 47, 48, 49, 50] (by decide +kernel) (by decide +kernel)
set_option maxRecDepth 20000 in
theorem gX3_hinders_X1_weirsInWay : GoodIn wsX3_hinders (wsV RX3 134 RX1 yX1_weirsInWay wsX1_weirsInWay) := goodIn_app (goodIn_of _ (by decide +kernel)) ggX3_hinders_X1_weirsInWay
set_option maxRecDepth 20000 in
theorem ggX3_richest_X1_richestHeld : GoodIn wsX3_richest wsX1_richestHeld := goodIn_r _ [6, 7, 8, 9, 10, 11, 5, 12, 13, 14, 15, 16, 17, 18, 19, 22, 23, 24, 25, 26, 27, 28, 29, 30, 31, 32, 33, 34, 35, 36, 37, 38, 39] (by decide +kernel) (by decide +kernel)
set_option maxRecDepth 20000 in
theorem gX3_richest_X1_richestHeld : GoodIn wsX3_richest (wsV RX3 137 RX1 yX1_richestHeld wsX1_richestHeld) := goodIn_app (goodIn_of _ (by decide +kernel)) ggX3_richest_X1_richestHeld
set_option maxRecDepth 20000 in
theorem ggX3_pass_X3_isWithin : GoodIn wsX3_pass wsX3_isWithin := goodIn_r _ [8] (by decide +kernel) (by decide +kernel)
set_option maxRecDepth 20000 in
theorem gX3_pass_X3_isWithin : GoodIn wsX3_pass (va_wsS RX3 19 yX3_isWithin wsX3_isWithin) := goodIn_app (goodIn_of _ (by decide +kernel)) ggX3_pass_X3_isWithin
set_option maxRecDepth 20000 in
theorem ggX3_pass_X1_goThroughNights : GoodIn wsX3_pass wsX1_goThroughNights := goodIn_r _ [13, 14, 15, 16, 17, 12, 18, 19, 20, 21, 22, 23, 24, 25, 26, 27, 28, 29, 30, 31, 32, 33, 34, 35, 36, 37, 38, 39, 40, 41, 42, 43, 44, 45, 46, 47, 48, 49, 50, 51, 52, 53, 54, 55, 56, 57, 58, 59, 60, 61, 62, 63, 64, 65, 66, 67, 68, 69, 70, 71, 72, 73, 74, 75, 76, 77, 78, 79, 80, 81, 82, 83, 84, 85, 86, 87, 88, 89, 90, 91, 92, 93, 94, 95, 96, 97, 98, 99, 100, 101, 102, 103, 104, 105, 106, 107, 108, 109, 110, 111, 112, 113, 114, 115, 116, 117, 118, 119, 120, 121, 122, 123, 124, 125, 126, 127, 128, 129, 130, 131, 132, 133, 134, 135, 136, 137, 138, 139, 140, 141, 142, 145, 146, 147, 148, 149, 150, 151, 152, 153, 154, 155, 156, 157, 158, 159, 160, 161, 162, 163, 164, 165, 166] (by decide +kernel) (by decide +kernel)
set_option maxRecDepth 20000 in
theorem gX3_pass_X1_goThroughNights : GoodIn wsX3_pass (wsV RX3 145 RX1 yX1_goThroughNights wsX1_goThroughNights) := goodIn_app (goodIn_of _ (by decide +kernel)) ggX3_pass_X1_goThroughNights
set_option maxRecDepth 20000 in
theorem ggX3_catches_X1_weirAt : GoodIn wsX3_catches wsX1_weirAt := goodIn_r _ [10, 11, 12, 104, 105, 106, 107, 108, 109, 110, 111, 112, 113] (by decide +kernel) (by decide +kernel)
set_option maxRecDepth 20000 in
theorem gX3_catches_X1_weirAt : GoodIn wsX3_catches (wsV RX3 43 RX1 yX1_weirAt wsX1_weirAt) := goodIn_app (goodIn_of _ (by decide +kernel)) ggX3_catches_X1_weirAt
set_option maxRecDepth 20000 in
theorem ggX3_catches_X1_copyFrom : GoodIn wsX3_catches wsX1_copyFrom := goodIn_r _ [16, 17, 18, 11, 19, 20, 21, 22, 23, 24, 25, 26, 9, 27, 28, 29, 30, 31, 32, 7, 8, 10, 12, 33, 34, 35, 36, 37, 38, 39, 40, 41, 42, 43, 44, 45, 46, 47, 48, 49, 50, 51, 52, 53, 54, 55, 56, 57, 58, 59, 60, 61, 62, 63, 64, 65, 104, 105, 106, 107, 108, 109, 110, 111, 112, 113, 96, 97, 98, 99, 100, 101, 102, 103, 114, 115, 116, 117] (by decide +kernel) (by decide +kernel)
set_option maxRecDepth 20000 in
theorem gX3_catches_X1_copyFrom : GoodIn wsX3_catches (wsV RX3 149 RX1 yX1_copyFrom wsX1_copyFrom) := goodIn_app (goodIn_of _ (by decide +kernel)) ggX3_catches_X1_copyFrom
set_option maxRecDepth 20000 in
theorem ggX3_catches_X1_catchEels : GoodIn wsX3_catches wsX1_catchEels := goodIn_r _ [69, 11, 70, 71, 72, 9, 73, 20, 74, 75, 76, 77, 24, 25, 26, 27, 17, 78, 79, 80, 81, 28, 29, 30, 31, 18, 32, 7, 8, 10, 12, 82, 83, 84, 39, 85, 48, 47, 86, 87, 88, 89, 42, 43, 46, 90, 91, 92, 93, 104, 105, 106, 107, 108, 109, 110, 111, 112, 113, 96, 97, 98, 99, 100, 101, 102, 103] (by decide +kernel) (by decide +kernel)
set_option maxRecDepth 20000 in
theorem gX3_catches_X1_catchEels : GoodIn wsX3_catches (wsV RX3 153 RX1 yX1_catchEels wsX1_catchEels) := goodIn_app (goodIn_of _ (by decide +kernel)) ggX3_catches_X1_catchEels
set_option maxRecDepth 20000 in
theorem ggX3_arrives_X1_bargeAt : GoodIn wsX3_arrives wsX1_bargeAt := goodIn_r _ [10, 11, 12, 164, 165, 166, 167, 168, 169, 170, 171, 172, 173] (by decide +kernel) (by decide +kernel)
set_option maxRecDepth 20000 in
theorem gX3_arrives_X1_bargeAt : GoodIn wsX3_arrives (wsV RX3 121 RX1 yX1_bargeAt wsX1_bargeAt) := goodIn_app (goodIn_of _ (by decide +kernel)) ggX3_arrives_X1_bargeAt
set_option maxRecDepth 20000 in
theorem ggX3_arrives_X1_copyFrom : GoodIn wsX3_arrives wsX1_copyFrom := goodIn_r _ [16, 17, 18, 19, 11, 20, 21, 22, 23, 24, 25, 26, 9, 27, 28, 29, 30, 31, 32, 33, 34, 35, 36, 37, 38, 39, 40, 41, 42, 43, 44, 45, 46, 47, 48, 49, 50, 51, 52, 53, 7, 8, 10, 12, 54, 55, 56, 57, 58, 59, 60, 61, 62, 63, 64, 65, 164, 165, 166, 167, 168, 169, 170, 171, 172, 173, 174, 175, 176, 177, 178, 179, 180, 181, 160, 161, 162, 163] (by decide +kernel) (by decide +kernel)
set_option maxRecDepth 20000 in
theorem gX3_arrives_X1_copyFrom : GoodIn wsX3_arrives (wsV RX3 149 RX1 yX1_copyFrom wsX1_copyFrom) := goodIn_app (goodIn_of _ (by decide +kernel)) ggX3_arrives_X1_copyFrom
set_option maxRecDepth 20000 in
theorem ggX3_arrives_X1_isUnderWay : GoodIn wsX3_arrives wsX1_isUnderWay := goodIn_r _ [69, 11, 70, 53, 7, 8, 9, 10, 12, 164, 165, 166, 167, 168, 169, 170, 171, 172, 173, 160, 161, 162, 163] (by decide +kernel) (by decide +kernel)
set_option maxRecDepth 20000 in
theorem gX3_arrives_X1_isUnderWay : GoodIn wsX3_arrives (wsV RX3 163 RX1 yX1_isUnderWay wsX1_isUnderWay) := goodIn_app (goodIn_of _ (by decide +kernel)) ggX3_arrives_X1_isUnderWay
set_option maxRecDepth 20000 in
theorem ggX3_arrives_X1_goThroughNights : GoodIn wsX3_arrives wsX1_goThroughNights := goodIn_r _ [74, 20, 75, 76, 77, 9, 78, 19, 79, 80, 81, 82, 83, 84, 85, 86, 24, 25, 26, 27, 17, 87, 88, 89, 90, 28, 29, 30, 31, 18, 32, 33, 34, 35, 36, 91, 92, 93, 43, 94, 52, 51, 95, 96, 97, 98, 46, 47, 50, 99, 100, 101, 102, 103, 104, 105, 106, 11, 107, 53, 7, 8, 10, 12, 108, 109, 110, 111, 112, 113, 114, 115, 116, 117, 118, 119, 120, 121, 60, 122, 64, 123, 124, 125, 126, 127, 22, 128, 129, 130, 131, 132, 49, 133, 134, 135, 136, 137, 138, 139, 140, 21, 54, 55, 56, 57, 58, 59, 61, 62, 63, 65, 141, 142, 143, 144, 145, 146, 147, 148, 149, 150, 151, 152, 153, 23, 154, 155, 156, 157, 48, 164, 165, 166, 167, 168, 169, 170, 171, 172, 173, 174, 175, 176, 177, 178, 179, 180, 181, 160, 161, 162, 163] (by decide +kernel) (by decide +kernel)
set_option maxRecDepth 20000 in
theorem gX3_arrives_X1_goThroughNights : GoodIn wsX3_arrives (wsV RX3 145 RX1 yX1_goThroughNights wsX1_goThroughNights) := goodIn_app (goodIn_of _ (by decide +kernel)) ggX3_arrives_X1_goThroughNights
set_option maxRecDepth 20000 in
theorem ggX3_lasts_X1_weirAt : GoodIn wsX3_lasts wsX1_weirAt := goodIn_r _ [10, 11, 12, 164, 165, 166, 167, 168, 169, 170, 171, 172, 173] (by decide +kernel) (by decide +kernel)
set_option maxRecDepth 20000 in
theorem gX3_lasts_X1_weirAt : GoodIn wsX3_lasts (wsV RX3 43 RX1 yX1_weirAt wsX1_weirAt) := goodIn_app (goodIn_of _ (by decide +kernel)) ggX3_lasts_X1_weirAt
set_option maxRecDepth 20000 in
theorem ggX3_lasts_X1_copyFrom : GoodIn wsX3_lasts wsX1_copyFrom := goodIn_r _ [16, 17, 18, 11, 19, 20, 21, 22, 23, 24, 25, 26, 9, 27, 28, 29, 30, 31, 32, 7, 8, 10, 12, 33, 34, 35, 36, 37, 38, 39, 40, 41, 42, 43, 44, 45, 46, 47, 48, 49, 50, 51, 52, 53, 54, 55, 56, 57, 58, 59, 60, 61, 62, 63, 64, 65, 164, 165, 166, 167, 168, 169, 170, 171, 172, 173, 156, 157, 158, 159, 160, 161, 162, 163, 174, 175, 176, 177] (by decide +kernel) (by decide +kernel)
set_option maxRecDepth 20000 in
theorem gX3_lasts_X1_copyFrom : GoodIn wsX3_lasts (wsV RX3 149 RX1 yX1_copyFrom wsX1_copyFrom) := goodIn_app (goodIn_of _ (by decide +kernel)) ggX3_lasts_X1_copyFrom
set_option maxRecDepth 20000 in
theorem ggX3_lasts_X2_isHeld : GoodIn wsX3_lasts wsX2_isHeld := goodIn_r _ [69, 48, 156, 157, 158, 159, 160, 161, 162, 163] (by decide +kernel) (by decide +kernel)
set_option maxRecDepth 20000 in
theorem gX3_lasts_X2_isHeld : GoodIn wsX3_lasts (wsV RX3 52 RX2 yX2_isHeld wsX2_isHeld) := goodIn_app (goodIn_of _ (by decide +kernel)) ggX3_lasts_X2_isHeld
set_option maxRecDepth 20000 in
theorem ggX3_lasts_X1_goThroughNights : GoodIn wsX3_lasts wsX1_goThroughNights := goodIn_r _ [73, 20, 74, 75, 76, 9, 77, 11, 78, 79, 80, 81, 82, 83, 84, 85, 24, 25, 26, 27, 17, 86, 87, 88, 89, 28, 29, 30, 31, 18, 32, 7, 8, 10, 12, 90, 91, 92, 39, 93, 48, 47, 94, 95, 96, 97, 42, 43, 46, 98, 99, 100, 101, 102, 103, 104, 105, 19, 106, 49, 50, 51, 52, 53, 107, 108, 109, 110, 111, 112, 113, 114, 115, 116, 117, 118, 119, 120, 60, 121, 64, 122, 123, 124, 125, 126, 22, 127, 128, 129, 130, 131, 45, 132, 133, 134, 135, 136, 137, 138, 139, 21, 54, 55, 56, 57, 58, 59, 61, 62, 63, 65, 140, 141, 142, 143, 144, 67, 68, 69, 145, 146, 147, 148, 149, 23, 150, 151, 152, 153, 44, 164, 165, 166, 167, 168, 169, 170, 171, 172, 173, 156, 157, 158, 159, 160, 161, 162, 163, 174, 175, 176, 177] (by decide +kernel) (by decide +kernel)
set_option maxRecDepth 20000 in
theorem gX3_lasts_X1_goThroughNights : GoodIn wsX3_lasts (wsV RX3 145 RX1 yX1_goThroughNights wsX1_goThroughNights) := goodIn_app (goodIn_of _ (by decide +kernel)) ggX3_lasts_X1_goThroughNights
set_option maxRecDepth 20000 in
theorem ggX3_foresee_X3_isWithin : GoodIn wsX3_foresee wsX3_isWithin := goodIn_r _ [10] (by decide +kernel) (by decide +kernel)
set_option maxRecDepth 20000 in
theorem gX3_foresee_X3_isWithin : GoodIn wsX3_foresee (va_wsS RX3 19 yX3_isWithin wsX3_isWithin) := goodIn_app (goodIn_of _ (by decide +kernel)) ggX3_foresee_X3_isWithin
set_option maxRecDepth 20000 in
theorem ggX3_foresee_X1_copyFrom : GoodIn wsX3_foresee wsX1_copyFrom := goodIn_r _ [15, 16, 17, 18, 19, 20, 21, 22, 23, 24, 25, 26, 14, 27, 28, 29, 30, 31, 32, 33, 34, 35, 36, 37, 38, 39, 40, 41, 42, 43, 44, 45, 46, 47, 48, 49, 50, 51, 52, 53, 54, 55, 56, 57, 58, 59, 60, 61, 62, 63, 64, 65, 66, 67, 68, 69, 172, 173, 174, 175, 176, 177, 178, 179, 180, 181, 182, 183, 184, 185, 186, 187, 188, 189, 190, 191, 192, 193] (by decide +kernel) (by decide +kernel)
set_option maxRecDepth 20000 in
theorem gX3_foresee_X1_copyFrom : GoodIn wsX3_foresee (wsV RX3 149 RX1 yX1_copyFrom wsX1_copyFrom) := goodIn_app (goodIn_of _ (by decide +kernel)) ggX3_foresee_X1_copyFrom
set_option maxRecDepth 20000 in
theorem ggX3_foresee_X1_goThroughNights : GoodIn wsX3_foresee wsX1_goThroughNights := goodIn_r _ [73, 20, 74, 75, 76, 14, 77, 18, 78, 79, 80, 81, 82, 83, 84, 85, 24, 25, 26, 27, 16, 86, 87, 88, 89, 28, 29, 30, 31, 17, 32, 33, 34, 35, 36, 90, 91, 92, 43, 93, 52, 51, 94, 95, 96, 97, 46, 47, 50, 98, 99, 100, 101, 102, 103, 104, 105, 19, 106, 53, 54, 55, 56, 57, 107, 108, 109, 110, 111, 112, 113, 114, 115, 116, 117, 118, 119, 120, 64, 121, 68, 122, 123, 124, 125, 126, 22, 127, 128, 129, 130, 131, 49, 132, 133, 134, 135, 136, 137, 138, 139, 21, 58, 59, 60, 61, 62, 63, 65, 66, 67, 69, 140, 141, 142, 143, 144, 145, 146, 147, 148, 149, 150, 151, 152, 23, 153, 154, 155, 156, 48, 172, 173, 174, 175, 176, 177, 178, 179, 180, 181, 182, 183, 184, 185, 186, 187, 188, 189, 190, 191, 192, 193] (by decide +kernel) (by decide +kernel)
set_option maxRecDepth 20000 in
theorem gX3_foresee_X1_goThroughNights : GoodIn wsX3_foresee (wsV RX3 145 RX1 yX1_goThroughNights wsX1_goThroughNights) := goodIn_app (goodIn_of _ (by decide +kernel)) ggX3_foresee_X1_goThroughNights
set_option maxRecDepth 20000 in
theorem ggX3_foresee_X1_fact : GoodIn wsX3_foresee wsX1_fact := goodIn_r _ [160, 20, 18, 19, 21, 22, 23, 86, 87, 88, 14, 89, 82, 83, 84, 85, 78, 79, 80, 81, 24, 25, 26, 27, 16, 161, 162, 163, 164, 32, 33, 34, 35, 36, 144, 145, 146, 43, 147, 52, 165, 166, 167, 168, 169, 172, 173, 174, 175, 176, 177, 178, 179, 180, 181, 182, 183, 184, 185, 186, 187, 188, 189] (by decide +kernel) (by decide +kernel)
set_option maxRecDepth 20000 in
theorem gX3_foresee_X1_fact : GoodIn wsX3_foresee (wsV RX3 133 RX1 yX1_fact wsX1_fact) := goodIn_app (goodIn_of _ (by decide +kernel)) ggX3_foresee_X1_fact
set_option maxRecDepth 20000 in
theorem ggX3_advise_X1_weirAt : GoodIn wsX3_advise wsX1_weirAt := goodIn_r _ [10, 11, 12, 167, 168, 169, 170, 171, 172, 173, 174, 175, 176] (by decide +kernel) (by decide +kernel)
set_option maxRecDepth 20000 in
theorem gX3_advise_X1_weirAt : GoodIn wsX3_advise (wsV RX3 43 RX1 yX1_weirAt wsX1_weirAt) := goodIn_app (goodIn_of _ (by decide +kernel)) ggX3_advise_X1_weirAt
set_option maxRecDepth 20000 in
theorem ggX3_advise_X3_isWithin : GoodIn wsX3_advise wsX3_isWithin := goodIn_r _ [16] (by decide +kernel) (by decide +kernel)
set_option maxRecDepth 20000 in
theorem gX3_advise_X3_isWithin : GoodIn wsX3_advise (va_wsS RX3 19 yX3_isWithin wsX3_isWithin) := goodIn_app (goodIn_of _ (by decide +kernel)) ggX3_advise_X3_isWithin
set_option maxRecDepth 20000 in
theorem ggX3_advise_X2_isFishing : GoodIn wsX3_advise wsX2_isFishing := goodIn_r _ [21, 22, 23, 177, 178, 179, 180, 181, 182, 183, 184] (by decide +kernel) (by decide +kernel)
set_option maxRecDepth 20000 in
theorem gX3_advise_X2_isFishing : GoodIn wsX3_advise (wsV RX3 173 RX2 yX2_isFishing wsX2_isFishing) := goodIn_app (goodIn_of _ (by decide +kernel)) ggX3_advise_X2_isFishing
set_option maxRecDepth 20000 in
theorem ggX3_advise_X3_eelsWithStakes : GoodIn wsX3_advise wsX3_eelsWithStakes := goodIn_r _ [27, 28, 5, 29, 30, 31, 32, 33, 9, 34, 35, 36, 11, 37, 38, 39, 40, 41, 42, 43, 44, 45, 46, 47, 48, 49, 50, 7, 8, 10, 12, 51, 52, 53, 54, 55, 56, 20, 57, 58, 59, 60, 61, 62, 63, 23, 22, 64, 65, 66, 67, 68, 69, 70, 71, 72, 73, 74, 75, 76, 77, 78, 79, 80, 6, 81, 82, 83, 84, 85, 86, 87, 88, 89, 90, 91, 92, 93, 94, 95, 96, 97, 98, 99, 100, 101, 18, 19, 21, 102, 103, 104, 105, 106, 107, 108, 109, 110, 111, 112, 113, 114, 115, 116, 117, 118, 119, 120, 121, 122, 123, 124, 125, 126, 127, 128, 129, 130, 131, 132, 133, 134, 135, 136, 137, 138, 139, 140, 141, 142, 143, 144, 145, 146, 147, 148, 149, 150, 151, 152, 153, 154, 155, 156, 157, 158, 159, 160, 161, 162, 163, 164, 165, 166, 177, 178, 179, 180, 181, 182, 183, 184, 167, 168, 169, 170, 171, 172, 173, 174, 175, 176, 185, 186, 187, 188] (by decide +kernel) (by decide +kernel)
set_option maxRecDepth 20000 in
theorem gX3_advise_X3_eelsWithStakes : GoodIn wsX3_advise (wsV RX3 176 RX3 yX3_eelsWithStakes wsX3_eelsWithStakes) := goodIn_app (goodIn_of _ (by decide +kernel)) ggX3_advise_X3_eelsWithStakes
set_option maxRecDepth 20000 in
theorem ggX3_mean_X1_heldWeirs : GoodIn wsX3_mean wsX1_heldWeirs := goodIn_r _ [6, 7, 8, 9, 10, 5, 11, 12, 13, 14, 15, 16, 17, 18, 26, 27, 28, 29, 30, 31, 32, 33, 34, 35, 36, 37, 38, 39, 40, 41, 42, 43] (by decide +kernel) (by decide +kernel)
set_option maxRecDepth 20000 in
theorem gX3_mean_X1_heldWeirs : GoodIn wsX3_mean (wsV RX3 179 RX1 yX1_heldWeirs wsX1_heldWeirs) := goodIn_app (goodIn_of _ (by decide +kernel)) ggX3_mean_X1_heldWeirs
set_option maxRecDepth 20000 in
theorem ggX3_mean_X1_heldWattle : GoodIn wsX3_mean wsX1_heldWattle := goodIn_r _ [22, 7, 23, 8, 9, 10, 5, 11, 12, 13, 14, 15, 16, 17, 18, 26, 27, 28, 29, 30, 31, 32, 33, 34, 35, 36, 37, 38, 39, 40, 41, 42, 43] (by decide +kernel) (by decide +kernel)
set_option maxRecDepth 20000 in
theorem gX3_mean_X1_heldWattle : GoodIn wsX3_mean (wsV RX3 182 RX1 yX1_heldWattle wsX1_heldWattle) := goodIn_app (goodIn_of _ (by decide +kernel)) ggX3_mean_X1_heldWattle
set_option maxRecDepth 20000 in
theorem ggX3_digest_X1_fact : GoodIn wsX3_digest wsX1_fact := goodIn_r _ [8, 9, 10, 11, 12, 13, 14, 15, 16, 17, 7, 18, 19, 20, 21, 22, 23, 24, 25, 26, 27, 28, 29, 30, 31, 32, 33, 34, 35, 36, 37, 38, 39, 40, 41, 42, 43, 44, 45, 46, 47, 48, 49, 50, 51, 103, 104, 105, 106, 107, 108, 109, 110, 111, 112, 113, 114, 115, 116, 117, 118, 119, 120] (by decide +kernel) (by decide +kernel)
set_option maxRecDepth 20000 in
theorem gX3_digest_X1_fact : GoodIn wsX3_digest (wsV RX3 133 RX1 yX1_fact wsX1_fact) := goodIn_app (goodIn_of _ (by decide +kernel)) ggX3_digest_X1_fact
set_option maxRecDepth 20000 in
theorem ggX3_digest_X1_tableEels : GoodIn wsX3_digest wsX1_tableEels := goodIn_r _ [30, 31, 103, 104, 105, 106, 107, 108, 109, 110, 111, 112] (by decide +kernel) (by decide +kernel)
set_option maxRecDepth 20000 in
theorem gX3_digest_X1_tableEels : GoodIn wsX3_digest (wsV RX3 98 RX1 yX1_tableEels wsX1_tableEels) := goodIn_app (goodIn_of _ (by decide +kernel)) ggX3_digest_X1_tableEels
set_option maxRecDepth 20000 in
theorem ggX3_digest_X3_digestOfWeirs : GoodIn wsX3_digest wsX3_digestOfWeirs := goodIn_r _ [57, 3, 58, 2, 59, 37, 38, 7, 39, 10, 40, 60, 61, 62, 44, 63, 64, 65, 66, 67, 68, 69, 70, 46, 101, 102, 103, 104, 105, 106, 107, 108, 109, 110, 111, 112, 113, 114, 115, 116, 117, 118, 119, 120] (by decide +kernel) (by decide +kernel)
set_option maxRecDepth 20000 in
theorem gX3_digest_X3_digestOfWeirs : GoodIn wsX3_digest (wsV RX3 189 RX3 yX3_digestOfWeirs wsX3_digestOfWeirs) := goodIn_app (goodIn_of _ (by decide +kernel)) ggX3_digest_X3_digestOfWeirs
set_option maxRecDepth 20000 in
theorem ggX3_digest_X3_digestOfBarges : GoodIn wsX3_digest wsX3_digestOfBarges := goodIn_r _ [74, 3, 75, 2, 76, 77, 78, 7, 79, 11, 80, 81, 82, 83, 84, 85, 86, 87, 88, 89, 90, 91, 10, 92, 36, 37, 38, 39, 40, 93, 94, 95, 44, 96, 65, 97, 98, 99, 100, 46, 70, 101, 102, 103, 104, 105, 106, 107, 108, 109, 110, 111, 112, 121, 122, 123, 124, 113, 114, 115, 116, 117, 118, 119, 120] (by decide +kernel) (by decide +kernel)
set_option maxRecDepth 20000 in
theorem gX3_digest_X3_digestOfBarges : GoodIn wsX3_digest (wsV RX3 193 RX3 yX3_digestOfBarges wsX3_digestOfBarges) := goodIn_app (goodIn_of _ (by decide +kernel)) ggX3_digest_X3_digestOfBarges
set_option maxRecDepth 20000 in
theorem ggX3_digestOfWeirs_X1_weirAt : GoodIn wsX3_digestOfWeirs wsX1_weirAt := goodIn_r _ [8, 9, 10, 26, 27, 28, 29, 30, 31, 32, 33, 34, 35] (by decide +kernel) (by decide +kernel)
set_option maxRecDepth 20000 in
theorem gX3_digestOfWeirs_X1_weirAt : GoodIn wsX3_digestOfWeirs (wsV RX3 43 RX1 yX1_weirAt wsX1_weirAt) := goodIn_app (goodIn_of _ (by decide +kernel)) ggX3_digestOfWeirs_X1_weirAt
set_option maxRecDepth 20000 in
theorem ggX3_digestOfWeirs_X2_fact : GoodIn wsX3_digestOfWeirs wsX2_fact := goodIn_r _ [15, 16, 17, 18, 19, 20, 21, 22, 23, 36, 37, 38, 39, 40, 41, 42, 43] (by decide +kernel) (by decide +kernel)
set_option maxRecDepth 20000 in
theorem gX3_digestOfWeirs_X2_fact : GoodIn wsX3_digestOfWeirs (wsV RX3 118 RX2 yX2_fact wsX2_fact) := goodIn_app (goodIn_of _ (by decide +kernel)) ggX3_digestOfWeirs_X2_fact
set_option maxRecDepth 20000 in
theorem ggX3_digestOfBarges_X1_bargeAt : GoodIn wsX3_digestOfBarges wsX1_bargeAt := goodIn_r _ [8, 9, 10, 43, 44, 45, 46, 47, 48, 49, 50, 51, 52] (by decide +kernel) (by decide +kernel)
set_option maxRecDepth 20000 in
theorem gX3_digestOfBarges_X1_bargeAt : GoodIn wsX3_digestOfBarges (wsV RX3 121 RX1 yX1_bargeAt wsX1_bargeAt) := goodIn_app (goodIn_of _ (by decide +kernel)) ggX3_digestOfBarges_X1_bargeAt
set_option maxRecDepth 20000 in
theorem ggX3_digestOfBarges_X1_bargeFact : GoodIn wsX3_digestOfBarges wsX1_bargeFact := goodIn_r _ [14, 15, 16, 17, 18, 19, 20, 7, 21, 22, 23, 24, 25, 26, 27, 28, 29, 30, 31, 32, 33, 34, 35, 36, 37, 38, 39, 40, 53, 54, 55, 56, 43, 44, 45, 46, 47, 48, 49, 50, 51, 52, 57, 58, 59, 60, 61, 62, 63, 64] (by decide +kernel) (by decide +kernel)
set_option maxRecDepth 20000 in
theorem gX3_digestOfBarges_X1_bargeFact : GoodIn wsX3_digestOfBarges (wsV RX3 127 RX1 yX1_bargeFact wsX1_bargeFact) := goodIn_app (goodIn_of _ (by decide +kernel)) ggX3_digestOfBarges_X1_bargeFact
set_option maxRecDepth 20000 in
theorem ggX3_eelsWithStakes_X1_copyFrom : GoodIn wsX3_eelsWithStakes wsX1_copyFrom := goodIn_r _ [9, 10, 11, 12, 13, 14, 15, 16, 17, 18, 19, 20, 8, 21, 22, 23, 24, 25, 26, 27, 28, 29, 30, 31, 32, 33, 34, 35, 36, 37, 38, 39, 40, 41, 42, 43, 44, 45, 46, 47, 48, 49, 50, 51, 52, 53, 54, 55, 56, 57, 58, 59, 60, 61, 62, 63, 162, 163, 164, 165, 166, 167, 168, 169, 170, 171, 154, 155, 156, 157, 158, 159, 160, 161, 172, 173, 174, 175] (by decide +kernel) (by decide +kernel)
set_option maxRecDepth 20000 in
theorem gX3_eelsWithStakes_X1_copyFrom : GoodIn wsX3_eelsWithStakes (wsV RX3 149 RX1 yX1_copyFrom wsX1_copyFrom) := goodIn_app (goodIn_of _ (by decide +kernel)) ggX3_eelsWithStakes_X1_copyFrom
set_option maxRecDepth 20000 in
theorem ggX3_eelsWithStakes_X1_weirAt : GoodIn wsX3_eelsWithStakes wsX1_weirAt := goodIn_r _ [29, 12, 30, 162, 163, 164, 165, 166, 167, 168, 169, 170, 171] (by decide +kernel) (by decide +kernel)
set_option maxRecDepth 20000 in
theorem gX3_eelsWithStakes_X1_weirAt : GoodIn wsX3_eelsWithStakes (wsV RX3 43 RX1 yX1_weirAt wsX1_weirAt) := goodIn_app (goodIn_of _ (by decide +kernel)) ggX3_eelsWithStakes_X1_weirAt
set_option maxRecDepth 20000 in
theorem ggX3_eelsWithStakes_X1_goThroughNights : GoodIn wsX3_eelsWithStakes wsX1_goThroughNights := goodIn_r _ [68, 14, 69, 70, 71, 8, 72, 12, 73, 74, 75, 76, 77, 78, 79, 80, 18, 19, 20, 21, 10, 81, 82, 83, 84, 22, 23, 24, 25, 11, 26, 27, 28, 29, 30, 85, 86, 87, 37, 88, 46, 45, 89, 90, 91, 92, 40, 41, 44, 93, 94, 95, 96, 97, 98, 99, 100, 13, 101, 47, 48, 49, 50, 51, 102, 103, 104, 105, 106, 107, 108, 109, 110, 111, 112, 113, 114, 115, 58, 116, 62, 117, 118, 119, 120, 121, 16, 122, 123, 124, 125, 126, 43, 127, 128, 129, 130, 131, 132, 133, 134, 15, 52, 53, 54, 55, 56, 57, 59, 60, 61, 63, 135, 136, 137, 138, 139, 140, 141, 142, 143, 144, 145, 146, 147, 17, 148, 149, 150, 151, 42, 162, 163, 164, 165, 166, 167, 168, 169, 170, 171, 154, 155, 156, 157, 158, 159, 160, 161, 172, 173, 174, 175] (by decide +kernel) (by decide +kernel)
set_option maxRecDepth 20000 in
theorem gX3_eelsWithStakes_X1_goThroughNights : GoodIn wsX3_eelsWithStakes (wsV RX3 145 RX1 yX1_goThroughNights wsX1_goThroughNights) := goodIn_app (goodIn_of _ (by decide +kernel)) ggX3_eelsWithStakes_X1_goThroughNights
set_option maxRecDepth 20000 in
theorem ggX4_become_X4_copy : GoodIn wsX4_become wsX4_copy := goodIn_r _ [20, 21, 22, 23, 24] (by decide +kernel) (by decide +kernel)
set_option maxRecDepth 20000 in
theorem gX4_become_X4_copy : GoodIn wsX4_become (wsV RX4 68 RX4 yX4_copy wsX4_copy) := goodIn_app (goodIn_of _ (by decide +kernel)) ggX4_become_X4_copy
set_option maxRecDepth 20000 in
theorem ggX4_run_X4_moon : GoodIn wsX4_run wsX4_moon := goodIn_r _ [7, 2, 8, 9, 10, 11, 12, 13, 14, 15, 16, 17, 18, 19, 20, 21, 22, 23] (by decide +kernel) (by decide +kernel)
set_option maxRecDepth 20000 in
theorem gX4_run_X4_moon : GoodIn wsX4_run (wsV RX4 75 RX4 yX4_moon wsX4_moon) := goodIn_app (goodIn_of _ (by decide +kernel)) ggX4_run_X4_moon
set_option maxRecDepth 20000 in
theorem ggX4_isInWay_X4_isHeld : GoodIn wsX4_isInWay wsX4_isHeld := goodIn_r _ [7, 8, 9, 10, 11, 12, 13, 14, 15, 16, 17, 18, 19, 20, 21, 22, 23, 24] (by decide +kernel) (by decide +kernel)
set_option maxRecDepth 20000 in
theorem gX4_isInWay_X4_isHeld : GoodIn wsX4_isInWay (wsV RX4 79 RX4 yX4_isHeld wsX4_isHeld) := goodIn_app (goodIn_of _ (by decide +kernel)) ggX4_isInWay_X4_isHeld
set_option maxRecDepth 20000 in
theorem ggX4_runDown_X4_run : GoodIn wsX4_runDown wsX4_run := goodIn_r _ [14, 1, 15, 16, 17, 18, 13, 19, 25, 26, 27, 28, 29, 30, 31, 32, 33, 34, 35, 36, 37, 38, 39, 40, 41, 42, 43, 44, 45, 46, 47] (by decide +kernel) (by decide +kernel)
set_option maxRecDepth 20000 in
theorem gX4_runDown_X4_run : GoodIn wsX4_runDown (wsV RX4 83 RX4 yX4_run wsX4_run) := goodIn_app (goodIn_of _ (by decide +kernel)) ggX4_runDown_X4_run
set_option maxRecDepth 20000 in
theorem ggX4_runDown_X4_isHeld : GoodIn wsX4_runDown wsX4_isHeld := goodIn_r _ [23, 24, 25, 26, 27, 28, 29, 30, 31, 32, 33, 34, 35, 36, 37, 38, 39, 40] (by decide +kernel) (by decide +kernel)
set_option maxRecDepth 20000 in
theorem gX4_runDown_X4_isHeld : GoodIn wsX4_runDown (wsV RX4 79 RX4 yX4_isHeld wsX4_isHeld) := goodIn_app (goodIn_of _ (by decide +kernel)) ggX4_runDown_X4_isHeld
set_option maxRecDepth 20000 in
theorem ggX4_breaks_X4_isInWay : GoodIn wsX4_breaks wsX4_isInWay := goodIn_r _ [20, 21, 4, 22, 23, 24, 19, 25, 26, 27, 28, 29, 30, 31, 32, 33, 34, 35, 36, 37, 38, 39, 40, 41, 42] (by decide +kernel) (by decide +kernel)
set_option maxRecDepth 20000 in
theorem gX4_breaks_X4_isInWay : GoodIn wsX4_breaks (wsV RX4 98 RX4 yX4_isInWay wsX4_isInWay) := goodIn_app (goodIn_of _ (by decide +kernel)) ggX4_breaks_X4_isInWay
set_option maxRecDepth 20000 in
theorem ggX4_goUp_X4_breaks : GoodIn wsX4_goUp wsX4_breaks := goodIn_r _ [6, 7, 1, 8, 9, 10, 11, 12, 13, 14, 15, 16, 17, 18, 19, 20, 21, 22, 23, 5, 24, 25, 26, 27, 28, 29, 30, 31, 32, 33, 34, 35, 36, 37, 38, 39, 40, 41, 42, 43, 44, 45, 46, 47, 48, 49, 50, 51, 52, 53] (by decide +kernel) (by decide +kernel)
set_option maxRecDepth 20000 in
theorem gX4_goUp_X4_breaks : GoodIn wsX4_goUp (wsV RX4 105 RX4 yX4_breaks wsX4_breaks) := goodIn_app (goodIn_of _ (by decide +kernel)) ggX4_goUp_X4_breaks
set_option maxRecDepth 20000 in
theorem ggX4_pass_X4_runDown : GoodIn wsX4_pass wsX4_runDown := goodIn_r _ [13, 2, 14, 15, 3, 16, 17, 18, 6, 19, 20, 21, 22, 12, 23, 8, 24, 25, 26, 27, 28, 29, 30, 31, 32, 61, 62, 63, 64, 65, 66, 67, 68, 69, 70, 71, 72, 73, 74, 75, 76, 77, 78, 79, 80, 81, 82, 83] (by decide +kernel) (by decide +kernel)
set_option maxRecDepth 20000 in
theorem gX4_pass_X4_runDown : GoodIn wsX4_pass (wsV RX4 111 RX4 yX4_runDown wsX4_runDown) := goodIn_app (goodIn_of _ (by decide +kernel)) ggX4_pass_X4_runDown
set_option maxRecDepth 20000 in
theorem ggX4_pass_X4_goUp : GoodIn wsX4_pass wsX4_goUp := goodIn_r _ [36, 37, 38, 39, 40, 12, 41, 2, 42, 15, 3, 4, 5, 6, 7, 43, 17, 18, 19, 44, 45, 46, 47, 48, 49, 14, 28, 29, 30, 31, 32, 61, 62, 63, 64, 65, 66, 67, 68, 69, 70, 71, 72, 73, 74, 75, 76, 77, 78, 79, 80, 81, 82, 83] (by decide +kernel) (by decide +kernel)
set_option maxRecDepth 20000 in
theorem gX4_pass_X4_goUp : GoodIn wsX4_pass (wsV RX4 115 RX4 yX4_goUp wsX4_goUp) := goodIn_app (goodIn_of _ (by decide +kernel)) ggX4_pass_X4_goUp
set_option maxRecDepth 20000 in
theorem ggX4_pass_X4_leave : GoodIn wsX4_pass wsX4_leave := goodIn_r _ [53, 1, 37, 54, 42, 45, 55, 61, 62, 63, 64, 65, 66, 67, 68, 69, 70, 71, 72, 73, 74, 75, 76] (by decide +kernel) (by decide +kernel)
set_option maxRecDepth 20000 in
theorem gX4_pass_X4_leave : GoodIn wsX4_pass (wsV RX4 119 RX4 yX4_leave wsX4_leave) := goodIn_app (goodIn_of _ (by decide +kernel)) ggX4_pass_X4_leave
set_option maxRecDepth 20000 in
theorem ggX4_pass_X4_isHeld : GoodIn wsX4_pass wsX4_isHeld := goodIn_r _ [31, 32, 61, 62, 63, 64, 65, 66, 67, 68, 69, 70, 71, 72, 73, 74, 75, 76] (by decide +kernel) (by decide +kernel)
set_option maxRecDepth 20000 in
theorem gX4_pass_X4_isHeld : GoodIn wsX4_pass (wsV RX4 79 RX4 yX4_isHeld wsX4_isHeld) := goodIn_app (goodIn_of _ (by decide +kernel)) ggX4_pass_X4_isHeld
set_option maxRecDepth 20000 in
theorem ggX4_pass_X4_moon : GoodIn wsX4_pass wsX4_moon := goodIn_r _ [27, 8, 61, 62, 63, 64, 65, 66, 67, 68, 69, 70, 71, 72, 73, 74, 75, 76] (by decide +kernel) (by decide +kernel)
set_option maxRecDepth 20000 in
theorem gX4_pass_X4_moon : GoodIn wsX4_pass (wsV RX4 75 RX4 yX4_moon wsX4_moon) := goodIn_app (goodIn_of _ (by decide +kernel)) ggX4_pass_X4_moon
set_option maxRecDepth 20000 in
theorem ggX4_pass_X4_payRent : GoodIn wsX4_pass wsX4_payRent := goodIn_r _ [59, 43, 2, 60, 32, 16, 61, 62, 63, 64, 65, 66, 67, 68, 69, 70, 71, 72, 73, 74, 75, 76, 77, 78, 79, 80, 81, 82, 83] (by decide +kernel) (by decide +kernel)
set_option maxRecDepth 20000 in
theorem gX4_pass_X4_payRent : GoodIn wsX4_pass (wsV RX4 122 RX4 yX4_payRent wsX4_payRent) := goodIn_app (goodIn_of _ (by decide +kernel)) ggX4_pass_X4_payRent
set_option maxRecDepth 20000 in
theorem ggX4_pass__X4_pass : GoodIn wsX4_pass_ wsX4_pass := goodIn_r _ [5, 6, 7, 8, 9, 10, 11, 12, 13, 14, 15, 16, 4, 17, 18, 19, 20, 21, 22, 23, 24, 25, 26, 27, 28, 29, 30, 31, 32, 33, 34, 35, 36, 37, 38, 39, 40, 41, 42, 43, 44, 45, 46, 47, 48, 49, 50, 51, 52, 53, 54, 55, 56, 57, 58, 59, 60, 61, 62, 63, 64, 65, 66, 67, 68, 69, 70, 71, 72, 73, 74, 75, 76, 77, 78, 79, 80, 81, 82, 83, 84, 85, 86, 87] (by decide +kernel) (by decide +kernel)
set_option maxRecDepth 20000 in
theorem gX4_pass__X4_pass : GoodIn wsX4_pass_ (wsV RX4 125 RX4 yX4_pass wsX4_pass) := goodIn_app (goodIn_of _ (by decide +kernel)) ggX4_pass__X4_pass
set_option maxRecDepth 20000 in
theorem ggX4_held_X4_isHeld : GoodIn wsX4_held wsX4_isHeld := goodIn_r _ [6, 7, 8, 9, 10, 11, 12, 13, 14, 15, 16, 17, 18, 19, 20, 21, 22, 23] (by decide +kernel) (by decide +kernel)
set_option maxRecDepth 20000 in
theorem gX4_held_X4_isHeld : GoodIn wsX4_held (wsV RX4 79 RX4 yX4_isHeld wsX4_isHeld) := goodIn_app (goodIn_of _ (by decide +kernel)) ggX4_held_X4_isHeld
set_option maxRecDepth 20000 in
theorem ggX4_counted_X4_moon : GoodIn wsX4_counted wsX4_moon := goodIn_r _ [12, 2, 31, 32, 33, 34, 35, 36, 37, 38, 39, 40, 41, 42, 43, 44, 45, 46] (by decide +kernel) (by decide +kernel)
set_option maxRecDepth 20000 in
theorem gX4_counted_X4_moon : GoodIn wsX4_counted (wsV RX4 75 RX4 yX4_moon wsX4_moon) := goodIn_app (goodIn_of _ (by decide +kernel)) ggX4_counted_X4_moon
set_option maxRecDepth 20000 in
theorem ggX4_counted_X4_run : GoodIn wsX4_counted wsX4_run := goodIn_r _ [16, 3, 2, 8, 9, 10, 11, 12, 31, 32, 33, 34, 35, 36, 37, 38, 39, 40, 41, 42, 43, 44, 45, 46, 47, 48, 49, 50, 51, 52, 53] (by decide +kernel) (by decide +kernel)
set_option maxRecDepth 20000 in
theorem gX4_counted_X4_run : GoodIn wsX4_counted (wsV RX4 83 RX4 yX4_run wsX4_run) := goodIn_app (goodIn_of _ (by decide +kernel)) ggX4_counted_X4_run
