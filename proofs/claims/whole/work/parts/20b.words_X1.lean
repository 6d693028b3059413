set_option maxRecDepth 20000 in
theorem ggX1_catchEels_X1_inOrder : GoodIn wsX1_catchEels wsX1_inOrder := goodIn_r _ [24, 25, 49, 50, 51, 52, 53, 54, 55, 56, 57, 58] (by decide +kernel) (by decide +kernel)
set_option maxRecDepth 20000 in
theorem gX1_catchEels_X1_inOrder : GoodIn wsX1_catchEels (wsV RX1 36 RX1 yX1_inOrder wsX1_inOrder) := goodIn_app (goodIn_of _ (by decide +kernel)) ggX1_catchEels_X1_inOrder
set_option maxRecDepth 20000 in
theorem ggX1_catchEels_X1_weirAt : GoodIn wsX1_catchEels wsX1_weirAt := goodIn_r _ [29, 1, 30, 49, 50, 51, 52, 53, 54, 55, 56, 57, 58] (by decide +kernel) (by decide +kernel)
set_option maxRecDepth 20000 in
theorem gX1_catchEels_X1_weirAt : GoodIn wsX1_catchEels (wsV RX1 43 RX1 yX1_weirAt wsX1_weirAt) := goodIn_app (goodIn_of _ (by decide +kernel)) ggX1_catchEels_X1_weirAt
set_option maxRecDepth 20000 in
theorem ggX1_catchEels_X2_isFishing : GoodIn wsX1_catchEels wsX2_isFishing := goodIn_r _ [35, 36, 37, 59, 60, 61, 62, 63, 64, 65, 66] (by decide +kernel) (by decide +kernel)
set_option maxRecDepth 20000 in
theorem gX1_catchEels_X2_isFishing : GoodIn wsX1_catchEels (wsV RX1 163 RX2 yX2_isFishing wsX2_isFishing) := goodIn_app (goodIn_of _ (by decide +kernel)) ggX1_catchEels_X2_isFishing
set_option maxRecDepth 20000 in
theorem ggX1_catchEels_X2_catchOf : GoodIn wsX1_catchEels wsX2_catchOf := goodIn_r _ [41, 42, 43, 44, 45, 46, 47, 48, 59, 60, 61, 62, 63, 64, 65, 66] (by decide +kernel) (by decide +kernel)
set_option maxRecDepth 20000 in
theorem gX1_catchEels_X2_catchOf : GoodIn wsX1_catchEels (wsV RX1 166 RX2 yX2_catchOf wsX2_catchOf) := goodIn_app (goodIn_of _ (by decide +kernel)) ggX1_catchEels_X2_catchOf
set_option maxRecDepth 20000 in
theorem ggX1_moveBarges_X1_bargeAt : GoodIn wsX1_moveBarges wsX1_bargeAt := goodIn_r _ [7, 1, 8, 60, 61, 62, 63, 64, 65, 66, 67, 68, 69] (by decide +kernel) (by decide +kernel)
set_option maxRecDepth 20000 in
theorem gX1_moveBarges_X1_bargeAt : GoodIn wsX1_moveBarges (wsV RX1 54 RX1 yX1_bargeAt wsX1_bargeAt) := goodIn_app (goodIn_of _ (by decide +kernel)) ggX1_moveBarges_X1_bargeAt
set_option maxRecDepth 20000 in
theorem ggX1_moveBarges_X1_nextInWay : GoodIn wsX1_moveBarges wsX1_nextInWay := goodIn_r _ [12, 13, 2, 14, 15, 16, 17, 18, 6, 19, 20, 21, 22, 23, 24, 25, 26, 27, 28, 29, 30, 31, 32, 60, 61, 62, 63, 64, 65, 66, 67, 68, 69, 70, 71, 72, 73, 74, 75, 76, 77, 78, 79, 80, 81] (by decide +kernel) (by decide +kernel)
set_option maxRecDepth 20000 in
theorem gX1_moveBarges_X1_nextInWay : GoodIn wsX1_moveBarges (wsV RX1 127 RX1 yX1_nextInWay wsX1_nextInWay) := goodIn_app (goodIn_of _ (by decide +kernel)) ggX1_moveBarges_X1_nextInWay
set_option maxRecDepth 20000 in
theorem ggX1_moveBarges_X1_weirAt : GoodIn wsX1_moveBarges wsX1_weirAt := goodIn_r _ [19, 13, 20, 60, 61, 62, 63, 64, 65, 66, 67, 68, 69] (by decide +kernel) (by decide +kernel)
set_option maxRecDepth 20000 in
theorem gX1_moveBarges_X1_weirAt : GoodIn wsX1_moveBarges (wsV RX1 43 RX1 yX1_weirAt wsX1_weirAt) := goodIn_app (goodIn_of _ (by decide +kernel)) ggX1_moveBarges_X1_weirAt
set_option maxRecDepth 20000 in
theorem ggX1_moveBarges_X0_goOn : GoodIn wsX1_moveBarges wsX0_goOn := goodIn_r _ [37, 38, 39, 40, 41, 42, 78, 79, 80, 81] (by decide +kernel) (by decide +kernel)
set_option maxRecDepth 20000 in
theorem gX1_moveBarges_X0_goOn : GoodIn wsX1_moveBarges (wsV RX1 169 RX0 yX0_goOn wsX0_goOn) := goodIn_app (goodIn_of _ (by decide +kernel)) ggX1_moveBarges_X0_goOn
set_option maxRecDepth 20000 in
theorem ggX1_moveBarges_X1_breakThrough : GoodIn wsX1_moveBarges wsX1_breakThrough := goodIn_r _ [46, 13, 2, 14, 15, 47, 48, 16, 17, 18, 6, 19, 20, 21, 22, 23, 24, 25, 26, 27, 28, 29, 30, 31, 32, 49, 50, 51, 52, 53, 54, 40, 41, 42, 55, 56, 57, 58, 59, 60, 61, 62, 63, 64, 65, 66, 67, 68, 69, 70, 71, 72, 73, 74, 75, 76, 77, 78, 79, 80, 81] (by decide +kernel) (by decide +kernel)
set_option maxRecDepth 20000 in
theorem gX1_moveBarges_X1_breakThrough : GoodIn wsX1_moveBarges (wsV RX1 173 RX1 yX1_breakThrough wsX1_breakThrough) := goodIn_app (goodIn_of _ (by decide +kernel)) ggX1_moveBarges_X1_breakThrough
set_option maxRecDepth 20000 in
theorem ggX1_breakThrough_X1_weirAt : GoodIn wsX1_breakThrough wsX1_weirAt := goodIn_r _ [11, 1, 12, 39, 40, 41, 42, 43, 44, 45, 46, 47, 48] (by decide +kernel) (by decide +kernel)
set_option maxRecDepth 20000 in
theorem gX1_breakThrough_X1_weirAt : GoodIn wsX1_breakThrough (wsV RX1 43 RX1 yX1_weirAt wsX1_weirAt) := goodIn_app (goodIn_of _ (by decide +kernel)) ggX1_breakThrough_X1_weirAt
set_option maxRecDepth 20000 in
theorem ggX1_breakThrough_X2_isInWay : GoodIn wsX1_breakThrough wsX2_isInWay := goodIn_r _ [17, 18, 19, 20, 21, 16, 22, 23, 24, 49, 50, 51, 52, 53, 54, 55, 56] (by decide +kernel) (by decide +kernel)
set_option maxRecDepth 20000 in
theorem gX1_breakThrough_X2_isInWay : GoodIn wsX1_breakThrough (wsV RX1 141 RX2 yX2_isInWay wsX2_isInWay) := goodIn_app (goodIn_of _ (by decide +kernel)) ggX1_breakThrough_X2_isInWay
set_option maxRecDepth 20000 in
theorem ggX1_breakThrough_X2_breakFor : GoodIn wsX1_breakThrough wsX2_breakFor := goodIn_r _ [28, 18, 29, 30, 31, 32, 33, 34, 35, 36, 16, 37, 38, 49, 50, 51, 52, 53, 54, 55, 56] (by decide +kernel) (by decide +kernel)
set_option maxRecDepth 20000 in
theorem gX1_breakThrough_X2_breakFor : GoodIn wsX1_breakThrough (wsV RX1 176 RX2 yX2_breakFor wsX2_breakFor) := goodIn_app (goodIn_of _ (by decide +kernel)) ggX1_breakThrough_X2_breakFor
set_option maxRecDepth 20000 in
theorem ggX1_leaveOutArrived_X1_bargeAt : GoodIn wsX1_leaveOutArrived wsX1_bargeAt := goodIn_r _ [8, 1, 9, 22, 23, 24, 25, 26, 27, 28, 29, 30, 31] (by decide +kernel) (by decide +kernel)
set_option maxRecDepth 20000 in
theorem gX1_leaveOutArrived_X1_bargeAt : GoodIn wsX1_leaveOutArrived (wsV RX1 54 RX1 yX1_bargeAt wsX1_bargeAt) := goodIn_app (goodIn_of _ (by decide +kernel)) ggX1_leaveOutArrived_X1_bargeAt
set_option maxRecDepth 20000 in
theorem ggX1_leaveOutArrived_X1_copyBarge : GoodIn wsX1_leaveOutArrived wsX1_copyBarge := goodIn_r _ [12, 13, 14, 15, 16, 17, 18, 19, 20, 21, 32, 33, 34, 35] (by decide +kernel) (by decide +kernel)
set_option maxRecDepth 20000 in
theorem gX1_leaveOutArrived_X1_copyBarge : GoodIn wsX1_leaveOutArrived (va_wsS RX1 58 yX1_copyBarge wsX1_copyBarge) := goodIn_app (goodIn_of _ (by decide +kernel)) ggX1_leaveOutArrived_X1_copyBarge
set_option maxRecDepth 20000 in
theorem ggX1_rotWattle_X1_moon : GoodIn wsX1_rotWattle wsX1_moon := goodIn_r _ [6, 7, 8, 9, 10, 11, 28, 29, 30, 31, 32, 33, 34, 35, 36, 37] (by decide +kernel) (by decide +kernel)
set_option maxRecDepth 20000 in
theorem gX1_rotWattle_X1_moon : GoodIn wsX1_rotWattle (wsV RX1 107 RX1 yX1_moon wsX1_moon) := goodIn_app (goodIn_of _ (by decide +kernel)) ggX1_rotWattle_X1_moon
set_option maxRecDepth 20000 in
theorem ggX1_rotWattle_X1_weirAt : GoodIn wsX1_rotWattle wsX1_weirAt := goodIn_r _ [15, 1, 16, 28, 29, 30, 31, 32, 33, 34, 35, 36, 37] (by decide +kernel) (by decide +kernel)
set_option maxRecDepth 20000 in
theorem gX1_rotWattle_X1_weirAt : GoodIn wsX1_rotWattle (wsV RX1 43 RX1 yX1_weirAt wsX1_weirAt) := goodIn_app (goodIn_of _ (by decide +kernel)) ggX1_rotWattle_X1_weirAt
set_option maxRecDepth 20000 in
theorem ggX1_rotWattle_X2_isHeld : GoodIn wsX1_rotWattle wsX2_isHeld := goodIn_r _ [21, 22, 38, 39, 40, 41, 42, 43, 44, 45] (by decide +kernel) (by decide +kernel)
set_option maxRecDepth 20000 in
theorem gX1_rotWattle_X2_isHeld : GoodIn wsX1_rotWattle (wsV RX1 131 RX2 yX2_isHeld wsX2_isHeld) := goodIn_app (goodIn_of _ (by decide +kernel)) ggX1_rotWattle_X2_isHeld
set_option maxRecDepth 20000 in
theorem ggX1_rotWattle_X2_loseWattle : GoodIn wsX1_rotWattle wsX2_loseWattle := goodIn_r _ [26, 27, 38, 39, 40, 41, 42, 43, 44, 45] (by decide +kernel) (by decide +kernel)
set_option maxRecDepth 20000 in
theorem gX1_rotWattle_X2_loseWattle : GoodIn wsX1_rotWattle (wsV RX1 179 RX2 yX2_loseWattle wsX2_loseWattle) := goodIn_app (goodIn_of _ (by decide +kernel)) ggX1_rotWattle_X2_loseWattle
set_option maxRecDepth 20000 in
theorem ggX1_collectRents_X1_weirAt : GoodIn wsX1_collectRents wsX1_weirAt := goodIn_r _ [7, 1, 8, 22, 23, 24, 25, 26, 27, 28, 29, 30, 31] (by decide +kernel) (by decide +kernel)
set_option maxRecDepth 20000 in
theorem gX1_collectRents_X1_weirAt : GoodIn wsX1_collectRents (wsV RX1 43 RX1 yX1_weirAt wsX1_weirAt) := goodIn_app (goodIn_of _ (by decide +kernel)) ggX1_collectRents_X1_weirAt
set_option maxRecDepth 20000 in
theorem ggX1_collectRents_X2_isHeld : GoodIn wsX1_collectRents wsX2_isHeld := goodIn_r _ [13, 14, 32, 33, 34, 35, 36, 37, 38, 39] (by decide +kernel) (by decide +kernel)
set_option maxRecDepth 20000 in
theorem gX1_collectRents_X2_isHeld : GoodIn wsX1_collectRents (wsV RX1 131 RX2 yX2_isHeld wsX2_isHeld) := goodIn_app (goodIn_of _ (by decide +kernel)) ggX1_collectRents_X2_isHeld
set_option maxRecDepth 20000 in
theorem ggX1_collectRents_X2_payRent : GoodIn wsX1_collectRents wsX2_payRent := goodIn_r _ [18, 19, 20, 14, 21, 32, 33, 34, 35, 36, 37, 38, 39] (by decide +kernel) (by decide +kernel)
set_option maxRecDepth 20000 in
theorem gX1_collectRents_X2_payRent : GoodIn wsX1_collectRents (wsV RX1 182 RX2 yX2_payRent wsX2_payRent) := goodIn_app (goodIn_of _ (by decide +kernel)) ggX1_collectRents_X2_payRent
