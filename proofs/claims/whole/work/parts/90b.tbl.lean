set_option maxRecDepth 100000 in
set_option maxHeartbeats 4000000 in
theorem tgL_gate : GoodIn lw_tbl wsL_gate := goodIn_ca (goodIn_ca (goodIn_r _ [370, 371, 260, 372, 373, 374, 28, 375, 376, 39, 336, 38, 157, 78, 227, 173, 174, 29, 175, 128, 124, 392, 177, 178, 30, 179, 79, 159, 161, 80, 82, 84, 86, 88, 90, 92, 94, 136, 138, 140, 142, 144, 146, 148, 150, 152, 154] (by decide +kernel) (by decide +kernel)) (goodIn_sub tx2 (by decide +kernel))) (goodIn_sub tx1 (by decide +kernel))
set_option maxRecDepth 100000 in
set_option maxHeartbeats 4000000 in
theorem tL_gate : GoodIn lw_tbl (va_wsS RL 84 yL_gate wsL_gate) := goodIn_app (goodIn_r _ [368, 369, 27] (by decide +kernel) (by decide +kernel)) tgL_gate
set_option maxRecDepth 100000 in
set_option maxHeartbeats 4000000 in
theorem tgL_mend : GoodIn lw_tbl wsL_mend := goodIn_ca (goodIn_ca (goodIn_ca (goodIn_r _ [396, 371, 259, 260, 397, 398, 399, 28, 400, 376, 39, 268, 37, 336, 38, 157, 68, 72, 227, 173, 174, 29, 175, 128, 124, 265, 266, 267, 392, 177, 178, 30, 179, 79, 159, 161, 80, 82, 84, 86, 88, 90, 92, 94, 136, 138, 140, 142, 144, 146, 148, 150, 152, 154] (by decide +kernel) (by decide +kernel)) (goodIn_sub tx2 (by decide +kernel))) (goodIn_sub tx0 (by decide +kernel))) (goodIn_sub tx1 (by decide +kernel))
set_option maxRecDepth 100000 in
set_option maxHeartbeats 4000000 in
theorem tL_mend : GoodIn lw_tbl (va_wsS RL 88 yL_mend wsL_mend) := goodIn_app (goodIn_r _ [394, 395, 27] (by decide +kernel) (by decide +kernel)) tgL_mend
set_option maxRecDepth 100000 in
set_option maxHeartbeats 4000000 in
theorem tgL_drive : GoodIn lw_tbl wsL_drive := goodIn_ca (goodIn_ca (goodIn_ca (goodIn_r _ [405, 371, 259, 260, 406, 407, 408, 28, 409, 376, 39, 268, 37, 336, 38, 157, 66, 72, 227, 173, 174, 29, 175, 128, 124, 265, 266, 267, 392, 177, 178, 30, 179, 79, 159, 161, 80, 82, 84, 86, 88, 90, 92, 94, 136, 138, 140, 142, 144, 146, 148, 150, 152, 154] (by decide +kernel) (by decide +kernel)) (goodIn_sub tx2 (by decide +kernel))) (goodIn_sub tx0 (by decide +kernel))) (goodIn_sub tx1 (by decide +kernel))
set_option maxRecDepth 100000 in
set_option maxHeartbeats 4000000 in
theorem tL_drive : GoodIn lw_tbl (va_wsS RL 92 yL_drive wsL_drive) := goodIn_app (goodIn_r _ [403, 404, 27] (by decide +kernel) (by decide +kernel)) tgL_drive
set_option maxRecDepth 100000 in
set_option maxHeartbeats 4000000 in
theorem tgL_sell : GoodIn lw_tbl wsL_sell := goodIn_ca (goodIn_ca (goodIn_r _ [414, 371, 260, 415, 416, 417, 28, 418, 376, 39, 336, 38, 157, 75, 72, 227, 173, 174, 29, 175, 128, 124, 392, 177, 178, 30, 179, 79, 420, 203, 204, 205, 131, 206, 207, 40, 208, 421, 422, 423, 159, 161, 80, 82, 84, 86, 88, 90, 92, 94, 136, 138, 140, 142, 144, 146, 148, 150, 152, 154] (by decide +kernel) (by decide +kernel)) (goodIn_sub tx2 (by decide +kernel))) (goodIn_sub tx1 (by decide +kernel))
set_option maxRecDepth 100000 in
set_option maxHeartbeats 4000000 in
theorem tL_sell : GoodIn lw_tbl (va_wsS RL 95 yL_sell wsL_sell) := goodIn_app (goodIn_r _ [412, 413, 27] (by decide +kernel) (by decide +kernel)) tgL_sell
set_option maxRecDepth 100000 in
set_option maxHeartbeats 4000000 in
theorem tgL_setRun : GoodIn lw_tbl wsL_setRun := goodIn_ca (goodIn_ca (goodIn_r _ [426, 371, 259, 427, 428, 429, 28, 430, 376, 39, 268, 37, 157, 265, 266, 267, 222, 214, 215, 29, 216, 123, 433, 434, 435, 436, 159, 161, 136, 138, 140, 142, 144, 146, 148, 150, 152, 154] (by decide +kernel) (by decide +kernel)) (goodIn_sub tx2 (by decide +kernel))) (goodIn_sub tx0 (by decide +kernel))
set_option maxRecDepth 100000 in
set_option maxHeartbeats 4000000 in
theorem tL_setRun : GoodIn lw_tbl (va_wsS RL 98 yL_setRun wsL_setRun) := goodIn_app (goodIn_r _ [424, 425, 27] (by decide +kernel) (by decide +kernel)) tgL_setRun
set_option maxRecDepth 100000 in
set_option maxHeartbeats 4000000 in
theorem tgL_barge : GoodIn lw_tbl wsL_barge := goodIn_ca (goodIn_ca (goodIn_r _ [439, 259, 260, 440, 441, 442, 28, 443, 268, 37, 336, 38, 157, 130, 265, 266, 267, 446, 447, 448, 29, 449, 129, 132, 450, 237, 238, 239, 126, 451, 452, 453, 31, 454, 105, 108, 110, 112, 159, 161, 136, 138, 140, 142, 144, 146, 148, 150, 152, 154, 114, 116, 118, 120] (by decide +kernel) (by decide +kernel)) (goodIn_sub tx0 (by decide +kernel))) (goodIn_sub tx1 (by decide +kernel))
set_option maxRecDepth 100000 in
set_option maxHeartbeats 4000000 in
theorem tL_barge : GoodIn lw_tbl (va_wsS RL 101 yL_barge wsL_barge) := goodIn_app (goodIn_r _ [437, 438, 27] (by decide +kernel) (by decide +kernel)) tgL_barge
set_option maxRecDepth 100000 in
set_option maxHeartbeats 4000000 in
theorem tgL_about : GoodIn lw_tbl wsL_about := goodIn_ca (goodIn_r _ [457, 371, 458, 459, 460, 28, 461, 376, 39, 157, 227, 173, 174, 29, 175, 128, 124, 265, 266, 267, 228, 229, 230, 30, 231, 63, 65, 67, 70, 71, 74, 77, 79, 159, 161, 136, 138, 140, 142, 144, 146, 148, 150, 152, 154, 80, 82, 84, 86, 88, 90, 92, 94] (by decide +kernel) (by decide +kernel)) (goodIn_sub tx2 (by decide +kernel))
set_option maxRecDepth 100000 in
set_option maxHeartbeats 4000000 in
theorem tL_about : GoodIn lw_tbl (va_wsS RL 104 yL_about wsL_about) := goodIn_app (goodIn_r _ [455, 456, 27] (by decide +kernel) (by decide +kernel)) tgL_about
set_option maxRecDepth 100000 in
set_option maxHeartbeats 4000000 in
theorem tgL_told : GoodIn lw_tbl wsL_told := goodIn_ca (goodIn_r _ [465, 371, 466, 467, 468, 28, 469, 376, 39, 157, 236, 237, 238, 29, 239, 129, 126, 265, 266, 267, 240, 241, 242, 243, 109, 111, 113, 244, 246, 4, 247, 128, 64, 172, 173, 174, 175, 124, 248, 249, 250, 30, 251, 65, 252, 253, 254, 255, 79, 77, 159, 161, 136, 138, 140, 142, 144, 146, 148, 150, 152, 154, 114, 116, 118, 120, 80, 82, 84, 86, 88, 90, 92, 94] (by decide +kernel) (by decide +kernel)) (goodIn_sub tx2 (by decide +kernel))
set_option maxRecDepth 100000 in
set_option maxHeartbeats 4000000 in
theorem tL_told : GoodIn lw_tbl (va_wsS RL 107 yL_told wsL_told) := goodIn_app (goodIn_r _ [463, 464, 27] (by decide +kernel) (by decide +kernel)) tgL_told
set_option maxRecDepth 100000 in
set_option maxHeartbeats 4000000 in
theorem tgL_count : GoodIn lw_tbl wsL_count := goodIn_ca (goodIn_r _ [473, 371, 474, 475, 476, 28, 477, 376, 39, 157, 265, 266, 267, 198, 199, 200, 29, 201, 131, 128, 129, 132, 134, 135, 202, 203, 204, 205, 206, 207, 40, 208, 209, 211, 0, 212, 213, 214, 215, 216, 123, 217, 185, 186, 187, 172, 173, 174, 175, 124, 176, 177, 178, 30, 179, 79, 218, 220, 1, 221, 76, 159, 161, 136, 138, 140, 142, 144, 146, 148, 150, 152, 154, 80, 82, 84, 86, 88, 90, 92, 94] (by decide +kernel) (by decide +kernel)) (goodIn_sub tx2 (by decide +kernel))
set_option maxRecDepth 100000 in
set_option maxHeartbeats 4000000 in
theorem tL_count : GoodIn lw_tbl (va_wsS RL 110 yL_count wsL_count) := goodIn_app (goodIn_r _ [471, 472, 27] (by decide +kernel) (by decide +kernel)) tgL_count
set_option maxRecDepth 100000 in
set_option maxHeartbeats 4000000 in
theorem tgL_hinders : GoodIn lw_tbl wsL_hinders := goodIn_ca (goodIn_r _ [481, 259, 482, 483, 484, 28, 485, 268, 37, 157, 265, 266, 267, 486, 487, 488, 29, 489, 128, 172, 173, 174, 175, 124, 248, 249, 250, 30, 251, 65, 252, 253, 254, 255, 79, 77, 159, 161, 136, 138, 140, 142, 144, 146, 148, 150, 152, 154, 80, 82, 84, 86, 88, 90, 92, 94] (by decide +kernel) (by decide +kernel)) (goodIn_sub tx0 (by decide +kernel))
set_option maxRecDepth 100000 in
set_option maxHeartbeats 4000000 in
theorem tL_hinders : GoodIn lw_tbl (va_wsS RL 113 yL_hinders wsL_hinders) := goodIn_app (goodIn_r _ [479, 480, 27] (by decide +kernel) (by decide +kernel)) tgL_hinders
