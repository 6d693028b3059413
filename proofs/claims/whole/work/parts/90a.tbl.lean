set_option maxRecDepth 100000 in
set_option maxHeartbeats 4000000 in
theorem tx0 : ∀ w ∈ (vx_atS RX3 27 "java/lang/IllegalArgumentException" ["java/lang/RuntimeException", "java/lang/Exception"]).filter goodWord, w ∈ lw_tbl := by decide +kernel
set_option maxRecDepth 100000 in
set_option maxHeartbeats 4000000 in
theorem tx1 : ∀ w ∈ (vx_atS RX3 38 "java/lang/IllegalStateException" ["java/lang/RuntimeException", "java/lang/Exception"]).filter goodWord, w ∈ lw_tbl := by decide +kernel
set_option maxRecDepth 100000 in
set_option maxHeartbeats 4000000 in
theorem tx2 : ∀ w ∈ (vx_atS RX3 51 "java/lang/IndexOutOfBoundsException" ["java/lang/RuntimeException", "java/lang/Exception"]).filter goodWord, w ∈ lw_tbl := by decide +kernel
set_option maxRecDepth 100000 in
set_option maxHeartbeats 4000000 in
theorem tgL_weir : GoodIn lw_tbl wsL_weir := goodIn_ca (goodIn_ca (goodIn_r _ [258, 259, 260, 261, 262, 263, 28, 264, 268, 37, 336, 38, 157, 127, 265, 266, 267, 352, 353, 354, 29, 355, 128, 356, 358, 6, 359, 125, 360, 362, 7, 363, 64, 172, 173, 174, 175, 124, 364, 365, 366, 30, 367, 63, 65, 67, 70, 71, 74, 77, 79, 159, 161, 136, 138, 140, 142, 144, 146, 148, 150, 152, 154, 80, 82, 84, 86, 88, 90, 92, 94] (by decide +kernel) (by decide +kernel)) (goodIn_sub tx0 (by decide +kernel))) (goodIn_sub tx1 (by decide +kernel))
set_option maxRecDepth 100000 in
set_option maxHeartbeats 4000000 in
theorem tL_weir : GoodIn lw_tbl (va_wsS RL 74 yL_weir wsL_weir) := goodIn_app (goodIn_r _ [256, 257, 27] (by decide +kernel) (by decide +kernel)) tgL_weir
