set_option maxRecDepth 20000 in
theorem ggX1_init_X2_init : GoodIn wsX1_init wsX2_init := goodIn_r _ [16, 17, 2, 3] (by decide +kernel) (by decide +kernel)
set_option maxRecDepth 20000 in
theorem gX1_init_X2_init_n24 : GoodIn wsX1_init (wsX2_init) := ggX1_init_X2_init
set_option maxRecDepth 20000 in
theorem ggX1_init_X0_init : GoodIn wsX1_init wsX0_init := goodIn_r _ [19, 20, 2, 3] (by decide +kernel) (by decide +kernel)
set_option maxRecDepth 20000 in
theorem gX1_init_X0_init_n31 : GoodIn wsX1_init (wsX0_init) := ggX1_init_X0_init
set_option maxRecDepth 20000 in
theorem ggX1_copyFrom_X1_tableEels : GoodIn wsX1_copyFrom wsX1_tableEels := goodIn_r _ [13, 1, 56, 57, 58, 59, 60, 61, 62, 63, 64, 65] (by decide +kernel) (by decide +kernel)
set_option maxRecDepth 20000 in
theorem gX1_copyFrom_X1_tableEels : GoodIn wsX1_copyFrom (wsV RX1 32 RX1 yX1_tableEels wsX1_tableEels) := goodIn_app (goodIn_of _ (by decide +kernel)) ggX1_copyFrom_X1_tableEels
set_option maxRecDepth 20000 in
theorem ggX1_copyFrom_X1_inOrder : GoodIn wsX1_copyFrom wsX1_inOrder := goodIn_r _ [17, 2, 56, 57, 58, 59, 60, 61, 62, 63, 64, 65] (by decide +kernel) (by decide +kernel)
set_option maxRecDepth 20000 in
theorem gX1_copyFrom_X1_inOrder : GoodIn wsX1_copyFrom (wsV RX1 36 RX1 yX1_inOrder wsX1_inOrder) := goodIn_app (goodIn_of _ (by decide +kernel)) ggX1_copyFrom_X1_inOrder
set_option maxRecDepth 20000 in
theorem ggX1_copyFrom_X1_weirAt : GoodIn wsX1_copyFrom wsX1_weirAt := goodIn_r _ [21, 3, 22, 56, 57, 58, 59, 60, 61, 62, 63, 64, 65] (by decide +kernel) (by decide +kernel)
set_option maxRecDepth 20000 in
theorem gX1_copyFrom_X1_weirAt : GoodIn wsX1_copyFrom (wsV RX1 43 RX1 yX1_weirAt wsX1_weirAt) := goodIn_app (goodIn_of _ (by decide +kernel)) ggX1_copyFrom_X1_weirAt
set_option maxRecDepth 20000 in
theorem ggX1_copyFrom_X1_copyWeir : GoodIn wsX1_copyFrom wsX1_copyWeir := goodIn_r _ [25, 26, 27, 28, 29, 30, 31, 32, 33, 34, 35, 36, 37, 38, 66, 67, 68, 69, 70, 71, 72, 73] (by decide +kernel) (by decide +kernel)
set_option maxRecDepth 20000 in
theorem gX1_copyFrom_X1_copyWeir : GoodIn wsX1_copyFrom (va_wsS RX1 47 yX1_copyWeir wsX1_copyWeir) := goodIn_app (goodIn_of _ (by decide +kernel)) ggX1_copyFrom_X1_copyWeir
set_option maxRecDepth 20000 in
theorem ggX1_copyFrom_X1_bargeAt : GoodIn wsX1_copyFrom wsX1_bargeAt := goodIn_r _ [42, 4, 43, 56, 57, 58, 59, 60, 61, 62, 63, 64, 65] (by decide +kernel) (by decide +kernel)
set_option maxRecDepth 20000 in
theorem gX1_copyFrom_X1_bargeAt : GoodIn wsX1_copyFrom (wsV RX1 54 RX1 yX1_bargeAt wsX1_bargeAt) := goodIn_app (goodIn_of _ (by decide +kernel)) ggX1_copyFrom_X1_bargeAt
set_option maxRecDepth 20000 in
theorem ggX1_copyFrom_X1_copyBarge : GoodIn wsX1_copyFrom wsX1_copyBarge := goodIn_r _ [46, 47, 48, 49, 50, 51, 52, 53, 54, 55, 74, 75, 76, 77] (by decide +kernel) (by decide +kernel)
set_option maxRecDepth 20000 in
theorem gX1_copyFrom_X1_copyBarge : GoodIn wsX1_copyFrom (va_wsS RX1 58 yX1_copyBarge wsX1_copyBarge) := goodIn_app (goodIn_of _ (by decide +kernel)) ggX1_copyFrom_X1_copyBarge
set_option maxRecDepth 20000 in
theorem ggX1_copyWeir_X2_copyFrom : GoodIn wsX1_copyWeir wsX2_copyFrom := goodIn_r _ [5, 6, 7, 8, 9, 10, 11, 12, 13, 14, 15, 16, 17, 18, 19, 20, 21] (by decide +kernel) (by decide +kernel)
set_option maxRecDepth 20000 in
theorem gX1_copyWeir_X2_copyFrom : GoodIn wsX1_copyWeir (wsV RX1 74 RX2 yX2_copyFrom wsX2_copyFrom) := goodIn_app (goodIn_of _ (by decide +kernel)) ggX1_copyWeir_X2_copyFrom
set_option maxRecDepth 20000 in
theorem ggX1_copyBarge_X0_copyFrom : GoodIn wsX1_copyBarge wsX0_copyFrom := goodIn_r _ [5, 6, 7, 8, 9, 10, 11, 12, 13] (by decide +kernel) (by decide +kernel)
set_option maxRecDepth 20000 in
theorem gX1_copyBarge_X0_copyFrom : GoodIn wsX1_copyBarge (wsV RX1 78 RX0 yX0_copyFrom wsX0_copyFrom) := goodIn_app (goodIn_of _ (by decide +kernel)) ggX1_copyBarge_X0_copyFrom
set_option maxRecDepth 20000 in
theorem ggX1_addWeir_X1_putInOrder : GoodIn wsX1_addWeir wsX1_putInOrder := goodIn_r _ [6, 7, 8, 9, 10, 5, 11, 12, 13, 14, 15, 16, 1, 17, 31, 32, 33, 34, 35, 36, 37, 38, 39, 40, 41, 42, 43, 44, 45, 46, 47, 48] (by decide +kernel) (by decide +kernel)
set_option maxRecDepth 20000 in
theorem gX1_addWeir_X1_putInOrder : GoodIn wsX1_addWeir (wsV RX1 81 RX1 yX1_putInOrder wsX1_putInOrder) := goodIn_app (goodIn_of _ (by decide +kernel)) ggX1_addWeir_X1_putInOrder
set_option maxRecDepth 20000 in
theorem ggX1_addWeir_X1_weirAt : GoodIn wsX1_addWeir wsX1_weirAt := goodIn_r _ [16, 1, 17, 31, 32, 33, 34, 35, 36, 37, 38, 39, 40] (by decide +kernel) (by decide +kernel)
set_option maxRecDepth 20000 in
theorem gX1_addWeir_X1_weirAt : GoodIn wsX1_addWeir (wsV RX1 43 RX1 yX1_weirAt wsX1_weirAt) := goodIn_app (goodIn_of _ (by decide +kernel)) ggX1_addWeir_X1_weirAt
set_option maxRecDepth 20000 in
theorem ggX1_addWeir_X2_makeNew : GoodIn wsX1_addWeir wsX2_makeNew := goodIn_r _ [22, 23, 24, 25, 26, 27, 28, 29, 30, 41, 42, 43, 44, 45, 46, 47, 48] (by decide +kernel) (by decide +kernel)
set_option maxRecDepth 20000 in
theorem gX1_addWeir_X2_makeNew : GoodIn wsX1_addWeir (wsV RX1 85 RX2 yX2_makeNew wsX2_makeNew) := goodIn_app (goodIn_of _ (by decide +kernel)) ggX1_addWeir_X2_makeNew
set_option maxRecDepth 20000 in
theorem ggX1_putInOrder_X1_isSeawardsOf : GoodIn wsX1_putInOrder wsX1_isSeawardsOf := goodIn_r _ [6, 7, 8, 9, 10, 5, 11, 12, 13, 24, 25, 26, 27, 28, 29, 30, 31, 14, 15, 16, 17, 18, 19, 20, 21, 22, 23] (by decide +kernel) (by decide +kernel)
set_option maxRecDepth 20000 in
theorem gX1_putInOrder_X1_isSeawardsOf : GoodIn wsX1_putInOrder (wsV RX1 89 RX1 yX1_isSeawardsOf wsX1_isSeawardsOf) := goodIn_app (goodIn_of _ (by decide +kernel)) ggX1_putInOrder_X1_isSeawardsOf
set_option maxRecDepth 20000 in
theorem ggX1_isSeawardsOf_X1_weirAt : GoodIn wsX1_isSeawardsOf wsX1_weirAt := goodIn_r _ [6, 7, 8, 17, 18, 19, 20, 21, 22, 23, 24, 25, 26] (by decide +kernel) (by decide +kernel)
set_option maxRecDepth 20000 in
theorem gX1_isSeawardsOf_X1_weirAt : GoodIn wsX1_isSeawardsOf (wsV RX1 43 RX1 yX1_weirAt wsX1_weirAt) := goodIn_app (goodIn_of _ (by decide +kernel)) ggX1_isSeawardsOf_X1_weirAt
set_option maxRecDepth 20000 in
theorem ggX1_addBarge_X1_bargeAt : GoodIn wsX1_addBarge wsX1_bargeAt := goodIn_r _ [7, 1, 8, 18, 19, 20, 21, 22, 23, 24, 25, 26, 27] (by decide +kernel) (by decide +kernel)
set_option maxRecDepth 20000 in
theorem gX1_addBarge_X1_bargeAt : GoodIn wsX1_addBarge (wsV RX1 54 RX1 yX1_bargeAt wsX1_bargeAt) := goodIn_app (goodIn_of _ (by decide +kernel)) ggX1_addBarge_X1_bargeAt
set_option maxRecDepth 20000 in
theorem ggX1_addBarge_X0_makeNew : GoodIn wsX1_addBarge wsX0_makeNew := goodIn_r _ [13, 14, 15, 16, 17, 28, 29, 30, 31] (by decide +kernel) (by decide +kernel)
set_option maxRecDepth 20000 in
theorem gX1_addBarge_X0_makeNew : GoodIn wsX1_addBarge (wsV RX1 96 RX0 yX0_makeNew wsX0_makeNew) := goodIn_app (goodIn_of _ (by decide +kernel)) ggX1_addBarge_X0_makeNew
set_option maxRecDepth 20000 in
theorem ggX1_isUnderWay_X1_bargeAt : GoodIn wsX1_isUnderWay wsX1_bargeAt := goodIn_r _ [7, 1, 8, 9, 10, 11, 12, 13, 14, 15, 16, 17, 18] (by decide +kernel) (by decide +kernel)
set_option maxRecDepth 20000 in
theorem gX1_isUnderWay_X1_bargeAt : GoodIn wsX1_isUnderWay (wsV RX1 54 RX1 yX1_bargeAt wsX1_bargeAt) := goodIn_app (goodIn_of _ (by decide +kernel)) ggX1_isUnderWay_X1_bargeAt
set_option maxRecDepth 20000 in
theorem ggX1_moon_J9_floorMod_7cf53 : GoodIn wsX1_moon wsJ9_floorMod_7cf53 := goodIn_r _ [5] (by decide +kernel) (by decide +kernel)
set_option maxRecDepth 20000 in
theorem gX1_moon_J9_floorMod_7cf53 : GoodIn wsX1_moon (va_wsS RX1 101 yJ9_floorMod_7cf53 wsJ9_floorMod_7cf53) := goodIn_app (goodIn_of _ (by decide +kernel)) ggX1_moon_J9_floorMod_7cf53
set_option maxRecDepth 20000 in
theorem ggX1_run_J9_floorMod_7cf53 : GoodIn wsX1_run wsJ9_floorMod_7cf53 := goodIn_r _ [5] (by decide +kernel) (by decide +kernel)
set_option maxRecDepth 20000 in
theorem gX1_run_J9_floorMod_7cf53 : GoodIn wsX1_run (va_wsS RX1 101 yJ9_floorMod_7cf53 wsJ9_floorMod_7cf53) := goodIn_app (goodIn_of _ (by decide +kernel)) ggX1_run_J9_floorMod_7cf53
set_option maxRecDepth 20000 in
theorem ggX1_run_X1_tableEels : GoodIn wsX1_run wsX1_tableEels := goodIn_r _ [10, 11, 16, 17, 18, 19, 20, 21, 22, 23, 24, 25] (by decide +kernel) (by decide +kernel)
set_option maxRecDepth 20000 in
theorem gX1_run_X1_tableEels : GoodIn wsX1_run (wsV RX1 32 RX1 yX1_tableEels wsX1_tableEels) := goodIn_app (goodIn_of _ (by decide +kernel)) ggX1_run_X1_tableEels
set_option maxRecDepth 20000 in
theorem ggX1_run_X1_moon : GoodIn wsX1_run wsX1_moon := goodIn_r _ [15, 1, 2, 3, 4, 5, 16, 17, 18, 19, 20, 21, 22, 23, 24, 25] (by decide +kernel) (by decide +kernel)
set_option maxRecDepth 20000 in
theorem gX1_run_X1_moon : GoodIn wsX1_run (wsV RX1 107 RX1 yX1_moon wsX1_moon) := goodIn_app (goodIn_of _ (by decide +kernel)) ggX1_run_X1_moon
set_option maxRecDepth 20000 in
theorem ggX1_fact_X1_moon : GoodIn wsX1_fact wsX1_moon := goodIn_r _ [11, 1, 12, 13, 14, 15, 45, 46, 47, 48, 49, 50, 51, 52, 53, 54] (by decide +kernel) (by decide +kernel)
set_option maxRecDepth 20000 in
theorem gX1_fact_X1_moon : GoodIn wsX1_fact (wsV RX1 107 RX1 yX1_moon wsX1_moon) := goodIn_app (goodIn_of _ (by decide +kernel)) ggX1_fact_X1_moon
set_option maxRecDepth 20000 in
theorem ggX1_fact_X1_run : GoodIn wsX1_fact wsX1_run := goodIn_r _ [19, 1, 12, 13, 14, 15, 20, 21, 22, 10, 23, 24, 7, 8, 9, 11, 45, 46, 47, 48, 49, 50, 51, 52, 53, 54] (by decide +kernel) (by decide +kernel)
set_option maxRecDepth 20000 in
theorem gX1_fact_X1_run : GoodIn wsX1_fact (wsV RX1 111 RX1 yX1_run wsX1_run) := goodIn_app (goodIn_of _ (by decide +kernel)) ggX1_fact_X1_run
set_option maxRecDepth 20000 in
theorem ggX1_fact_X1_heldWeirs : GoodIn wsX1_fact wsX1_heldWeirs := goodIn_r _ [28, 2, 29, 30, 31, 10, 32, 33, 34, 35, 36, 37, 38, 39, 45, 46, 47, 48, 49, 50, 51, 52, 53, 54, 55, 56, 57, 58, 59, 60, 61, 62] (by decide +kernel) (by decide +kernel)
set_option maxRecDepth 20000 in
theorem gX1_fact_X1_heldWeirs : GoodIn wsX1_fact (wsV RX1 114 RX1 yX1_heldWeirs wsX1_heldWeirs) := goodIn_app (goodIn_of _ (by decide +kernel)) ggX1_fact_X1_heldWeirs
set_option maxRecDepth 20000 in
theorem ggX1_fact_X1_allEels : GoodIn wsX1_fact wsX1_allEels := goodIn_r _ [43, 2, 44, 29, 30, 31, 10, 32, 33, 45, 46, 47, 48, 49, 50, 51, 52, 53, 54, 55, 56, 57, 58, 59, 60, 61, 62] (by decide +kernel) (by decide +kernel)
set_option maxRecDepth 20000 in
theorem gX1_fact_X1_allEels : GoodIn wsX1_fact (wsV RX1 117 RX1 yX1_allEels wsX1_allEels) := goodIn_app (goodIn_of _ (by decide +kernel)) ggX1_fact_X1_allEels
set_option maxRecDepth 20000 in
theorem ggX1_bargeFact_X1_nextInWay : GoodIn wsX1_bargeFact wsX1_nextInWay := goodIn_r _ [8, 9, 10, 2, 1, 11, 12, 13, 7, 14, 15, 16, 17, 18, 19, 20, 21, 22, 23, 24, 25, 26, 27, 32, 33, 34, 35, 36, 37, 38, 39, 40, 41, 42, 43, 44, 45, 46, 47, 48, 49, 28, 29, 30, 31] (by decide +kernel) (by decide +kernel)
set_option maxRecDepth 20000 in
theorem gX1_bargeFact_X1_nextInWay : GoodIn wsX1_bargeFact (wsV RX1 127 RX1 yX1_nextInWay wsX1_nextInWay) := goodIn_app (goodIn_of _ (by decide +kernel)) ggX1_bargeFact_X1_nextInWay
set_option maxRecDepth 20000 in
theorem ggX1_heldWeirs_X1_weirAt : GoodIn wsX1_heldWeirs wsX1_weirAt := goodIn_r _ [6, 1, 7, 14, 15, 16, 17, 18, 19, 20, 21, 22, 23] (by decide +kernel) (by decide +kernel)
set_option maxRecDepth 20000 in
theorem gX1_heldWeirs_X1_weirAt : GoodIn wsX1_heldWeirs (wsV RX1 43 RX1 yX1_weirAt wsX1_weirAt) := goodIn_app (goodIn_of _ (by decide +kernel)) ggX1_heldWeirs_X1_weirAt
set_option maxRecDepth 20000 in
theorem ggX1_heldWeirs_X2_isHeld : GoodIn wsX1_heldWeirs wsX2_isHeld := goodIn_r _ [12, 13, 24, 25, 26, 27, 28, 29, 30, 31] (by decide +kernel) (by decide +kernel)
set_option maxRecDepth 20000 in
theorem gX1_heldWeirs_X2_isHeld : GoodIn wsX1_heldWeirs (wsV RX1 131 RX2 yX2_isHeld wsX2_isHeld) := goodIn_app (goodIn_of _ (by decide +kernel)) ggX1_heldWeirs_X2_isHeld
set_option maxRecDepth 20000 in
theorem ggX1_heldWattle_X1_weirAt : GoodIn wsX1_heldWattle wsX1_weirAt := goodIn_r _ [7, 1, 8, 15, 16, 17, 18, 19, 20, 21, 22, 23, 24] (by decide +kernel) (by decide +kernel)
set_option maxRecDepth 20000 in
theorem gX1_heldWattle_X1_weirAt : GoodIn wsX1_heldWattle (wsV RX1 43 RX1 yX1_weirAt wsX1_weirAt) := goodIn_app (goodIn_of _ (by decide +kernel)) ggX1_heldWattle_X1_weirAt
set_option maxRecDepth 20000 in
theorem ggX1_heldWattle_X2_isHeld : GoodIn wsX1_heldWattle wsX2_isHeld := goodIn_r _ [13, 14, 25, 26, 27, 28, 29, 30, 31, 32] (by decide +kernel) (by decide +kernel)
set_option maxRecDepth 20000 in
theorem gX1_heldWattle_X2_isHeld : GoodIn wsX1_heldWattle (wsV RX1 131 RX2 yX2_isHeld wsX2_isHeld) := goodIn_app (goodIn_of _ (by decide +kernel)) ggX1_heldWattle_X2_isHeld
set_option maxRecDepth 20000 in
theorem ggX1_allEels_X1_weirAt : GoodIn wsX1_allEels wsX1_weirAt := goodIn_r _ [7, 1, 8, 9, 10, 11, 12, 13, 14, 15, 16, 17, 18] (by decide +kernel) (by decide +kernel)
set_option maxRecDepth 20000 in
theorem gX1_allEels_X1_weirAt : GoodIn wsX1_allEels (wsV RX1 43 RX1 yX1_weirAt wsX1_weirAt) := goodIn_app (goodIn_of _ (by decide +kernel)) ggX1_allEels_X1_weirAt
set_option maxRecDepth 20000 in
theorem ggX1_weirsInWay_X1_weirAt : GoodIn wsX1_weirsInWay wsX1_weirAt := goodIn_r _ [6, 1, 7, 20, 21, 22, 23, 24, 25, 26, 27, 28, 29] (by decide +kernel) (by decide +kernel)
set_option maxRecDepth 20000 in
theorem gX1_weirsInWay_X1_weirAt : GoodIn wsX1_weirsInWay (wsV RX1 43 RX1 yX1_weirAt wsX1_weirAt) := goodIn_app (goodIn_of _ (by decide +kernel)) ggX1_weirsInWay_X1_weirAt
set_option maxRecDepth 20000 in
theorem ggX1_weirsInWay_X2_isInWay : GoodIn wsX1_weirsInWay wsX2_isInWay := goodIn_r _ [12, 13, 14, 15, 16, 11, 17, 18, 19, 30, 31, 32, 33, 34, 35, 36, 37] (by decide +kernel) (by decide +kernel)
set_option maxRecDepth 20000 in
theorem gX1_weirsInWay_X2_isInWay : GoodIn wsX1_weirsInWay (wsV RX1 141 RX2 yX2_isInWay wsX2_isInWay) := goodIn_app (goodIn_of _ (by decide +kernel)) ggX1_weirsInWay_X2_isInWay
set_option maxRecDepth 20000 in
theorem ggX1_richestHeld_X1_weirAt : GoodIn wsX1_richestHeld wsX1_weirAt := goodIn_r _ [7, 1, 8, 15, 16, 17, 18, 19, 20, 21, 22, 23, 24] (by decide +kernel) (by decide +kernel)
set_option maxRecDepth 20000 in
theorem gX1_richestHeld_X1_weirAt : GoodIn wsX1_richestHeld (wsV RX1 43 RX1 yX1_weirAt wsX1_weirAt) := goodIn_app (goodIn_of _ (by decide +kernel)) ggX1_richestHeld_X1_weirAt
set_option maxRecDepth 20000 in
theorem ggX1_richestHeld_X2_isHeld : GoodIn wsX1_richestHeld wsX2_isHeld := goodIn_r _ [13, 14, 25, 26, 27, 28, 29, 30, 31, 32] (by decide +kernel) (by decide +kernel)
set_option maxRecDepth 20000 in
theorem gX1_richestHeld_X2_isHeld : GoodIn wsX1_richestHeld (wsV RX1 131 RX2 yX2_isHeld wsX2_isHeld) := goodIn_app (goodIn_of _ (by decide +kernel)) ggX1_richestHeld_X2_isHeld
set_option maxRecDepth 20000 in
theorem ggX1_nextInWay_X1_weirAt : GoodIn wsX1_nextInWay wsX1_weirAt := goodIn_r _ [9, 1, 10, 23, 24, 25, 26, 27, 28, 29, 30, 31, 32] (by decide +kernel) (by decide +kernel)
set_option maxRecDepth 20000 in
theorem gX1_nextInWay_X1_weirAt : GoodIn wsX1_nextInWay (wsV RX1 43 RX1 yX1_weirAt wsX1_weirAt) := goodIn_app (goodIn_of _ (by decide +kernel)) ggX1_nextInWay_X1_weirAt
set_option maxRecDepth 20000 in
theorem ggX1_nextInWay_X2_isInWay : GoodIn wsX1_nextInWay wsX2_isInWay := goodIn_r _ [15, 16, 17, 18, 19, 14, 20, 21, 22, 33, 34, 35, 36, 37, 38, 39, 40] (by decide +kernel) (by decide +kernel)
set_option maxRecDepth 20000 in
theorem gX1_nextInWay_X2_isInWay : GoodIn wsX1_nextInWay (wsV RX1 141 RX2 yX2_isInWay wsX2_isInWay) := goodIn_app (goodIn_of _ (by decide +kernel)) ggX1_nextInWay_X2_isInWay
set_option maxRecDepth 20000 in
theorem ggX1_goThroughNights_X1_catchEels : GoodIn wsX1_goThroughNights wsX1_catchEels := goodIn_r _ [6, 7, 8, 9, 10, 5, 11, 1, 12, 13, 14, 15, 16, 17, 18, 19, 20, 21, 22, 23, 24, 25, 26, 27, 28, 29, 30, 31, 32, 33, 34, 35, 36, 37, 38, 39, 40, 41, 42, 43, 44, 45, 46, 47, 48, 49, 50, 51, 52, 131, 132, 133, 134, 135, 136, 137, 138, 139, 140, 141, 142, 143, 144, 145, 146, 147, 148] (by decide +kernel) (by decide +kernel)
set_option maxRecDepth 20000 in
theorem gX1_goThroughNights_X1_catchEels : GoodIn wsX1_goThroughNights (wsV RX1 148 RX1 yX1_catchEels wsX1_catchEels) := goodIn_app (goodIn_of _ (by decide +kernel)) ggX1_goThroughNights_X1_catchEels
set_option maxRecDepth 20000 in
theorem ggX1_goThroughNights_X1_moveBarges : GoodIn wsX1_goThroughNights wsX1_moveBarges := goodIn_r _ [56, 57, 58, 59, 60, 61, 5, 62, 63, 64, 65, 66, 67, 7, 68, 69, 30, 31, 32, 33, 34, 70, 71, 72, 38, 73, 46, 74, 36, 37, 39, 40, 41, 75, 76, 77, 78, 79, 80, 81, 50, 51, 52, 82, 83, 84, 85, 86, 87, 88, 89, 90, 91, 92, 49, 93, 94, 95, 96, 47, 131, 132, 133, 134, 135, 136, 137, 138, 139, 140, 141, 142, 143, 144, 145, 146, 147, 148, 149, 150, 151, 152] (by decide +kernel) (by decide +kernel)
set_option maxRecDepth 20000 in
theorem gX1_goThroughNights_X1_moveBarges : GoodIn wsX1_goThroughNights (wsV RX1 151 RX1 yX1_moveBarges wsX1_moveBarges) := goodIn_app (goodIn_of _ (by decide +kernel)) ggX1_goThroughNights_X1_moveBarges
set_option maxRecDepth 20000 in
theorem ggX1_goThroughNights_X1_leaveOutArrived : GoodIn wsX1_goThroughNights wsX1_leaveOutArrived := goodIn_r _ [100, 57, 68, 101, 59, 60, 61, 5, 62, 63, 102, 103, 104, 105, 106, 107, 78, 108, 109, 110, 80, 111, 131, 132, 133, 134, 135, 136, 137, 138, 139, 140, 149, 150, 151, 152] (by decide +kernel) (by decide +kernel)
set_option maxRecDepth 20000 in
theorem gX1_goThroughNights_X1_leaveOutArrived : GoodIn wsX1_goThroughNights (wsV RX1 154 RX1 yX1_leaveOutArrived wsX1_leaveOutArrived) := goodIn_app (goodIn_of _ (by decide +kernel)) ggX1_goThroughNights_X1_leaveOutArrived
set_option maxRecDepth 20000 in
theorem ggX1_goThroughNights_X1_rotWattle : GoodIn wsX1_goThroughNights wsX1_rotWattle := goodIn_r _ [115, 7, 21, 22, 23, 5, 24, 1, 12, 13, 14, 15, 30, 31, 32, 33, 34, 116, 117, 118, 38, 119, 40, 120, 94, 95, 96, 47, 131, 132, 133, 134, 135, 136, 137, 138, 139, 140, 141, 142, 143, 144, 145, 146, 147, 148] (by decide +kernel) (by decide +kernel)
set_option maxRecDepth 20000 in
theorem gX1_goThroughNights_X1_rotWattle : GoodIn wsX1_goThroughNights (wsV RX1 157 RX1 yX1_rotWattle wsX1_rotWattle) := goodIn_app (goodIn_of _ (by decide +kernel)) ggX1_goThroughNights_X1_rotWattle
set_option maxRecDepth 20000 in
theorem ggX1_goThroughNights_J9_floorMod_7cf53 : GoodIn wsX1_goThroughNights wsJ9_floorMod_7cf53 := goodIn_r _ [15] (by decide +kernel) (by decide +kernel)
set_option maxRecDepth 20000 in
theorem gX1_goThroughNights_J9_floorMod_7cf53 : GoodIn wsX1_goThroughNights (va_wsS RX1 101 yJ9_floorMod_7cf53 wsJ9_floorMod_7cf53) := goodIn_app (goodIn_of _ (by decide +kernel)) ggX1_goThroughNights_J9_floorMod_7cf53
set_option maxRecDepth 20000 in
theorem ggX1_goThroughNights_X1_collectRents : GoodIn wsX1_goThroughNights wsX1_collectRents := goodIn_r _ [124, 7, 125, 30, 31, 32, 5, 33, 34, 116, 117, 118, 38, 119, 40, 126, 127, 128, 129, 92, 130, 48, 131, 132, 133, 134, 135, 136, 137, 138, 139, 140, 141, 142, 143, 144, 145, 146, 147, 148] (by decide +kernel) (by decide +kernel)
set_option maxRecDepth 20000 in
theorem gX1_goThroughNights_X1_collectRents : GoodIn wsX1_goThroughNights (wsV RX1 160 RX1 yX1_collectRents wsX1_collectRents) := goodIn_app (goodIn_of _ (by decide +kernel)) ggX1_goThroughNights_X1_collectRents
set_option maxRecDepth 20000 in
theorem ggX1_catchEels_X1_run : GoodIn wsX1_catchEels wsX1_run := goodIn_r _ [6, 7, 8, 9, 10, 11, 12, 13, 14, 5, 15, 16, 17, 18, 19, 20, 49, 50, 51, 52, 53, 54, 55, 56, 57, 58] (by decide +kernel) (by decide +kernel)
set_option maxRecDepth 20000 in
theorem gX1_catchEels_X1_run : GoodIn wsX1_catchEels (wsV RX1 111 RX1 yX1_run wsX1_run) := goodIn_app (goodIn_of _ (by decide +kernel)) ggX1_catchEels_X1_run
