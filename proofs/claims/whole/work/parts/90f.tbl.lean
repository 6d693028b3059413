set_option maxRecDepth 100000 in
set_option maxHeartbeats 4000000 in
theorem tgX3_richest : GoodIn lw_tbl wsX3_richest := goodIn_r _ [167, 157, 168, 169, 170, 29, 171, 128, 73, 172, 173, 174, 175, 124, 176, 177, 178, 30, 179, 79, 159, 161, 136, 138, 140, 142, 144, 146, 148, 150, 152, 154, 80, 82, 84, 86, 88, 90, 92, 94] (by decide +kernel) (by decide +kernel)
set_option maxRecDepth 100000 in
set_option maxHeartbeats 4000000 in
theorem tX3_richest : GoodIn lw_tbl (wsV RL 116 RX3 yX3_richest wsX3_richest) := goodIn_app (goodIn_r _ [164, 165, 166, 28] (by decide +kernel) (by decide +kernel)) tgX3_richest
set_option maxRecDepth 100000 in
set_option maxHeartbeats 4000000 in
theorem tgX3_mean : GoodIn lw_tbl wsX3_mean := goodIn_r _ [183, 157, 184, 185, 186, 29, 187, 128, 172, 173, 174, 175, 124, 176, 177, 178, 30, 179, 79, 188, 189, 190, 191, 69, 159, 161, 136, 138, 140, 142, 144, 146, 148, 150, 152, 154, 80, 82, 84, 86, 88, 90, 92, 94] (by decide +kernel) (by decide +kernel)
set_option maxRecDepth 100000 in
set_option maxHeartbeats 4000000 in
theorem tX3_mean : GoodIn lw_tbl (wsV RL 138 RX3 yX3_mean wsX3_mean) := goodIn_app (goodIn_r _ [180, 181, 182, 28] (by decide +kernel) (by decide +kernel)) tgX3_mean
set_option maxRecDepth 100000 in
set_option maxHeartbeats 4000000 in
theorem tgX3_digest : GoodIn lw_tbl wsX3_digest := goodIn_r _ [195, 196, 197, 157, 198, 199, 200, 29, 201, 131, 128, 129, 132, 134, 135, 202, 203, 204, 205, 206, 207, 40, 208, 209, 211, 0, 212, 213, 214, 215, 216, 123, 217, 185, 186, 187, 172, 173, 174, 175, 124, 176, 177, 178, 30, 179, 79, 218, 220, 1, 221, 76, 222, 223, 225, 2, 28, 226, 127, 227, 228, 229, 230, 231, 63, 65, 67, 70, 71, 74, 77, 232, 234, 3, 235, 130, 236, 237, 238, 239, 126, 240, 241, 242, 243, 109, 111, 113, 244, 246, 4, 247, 64, 248, 249, 250, 251, 252, 253, 254, 255, 159, 161, 136, 138, 140, 142, 144, 146, 148, 150, 152, 154, 80, 82, 84, 86, 88, 90, 92, 94, 114, 116, 118, 120] (by decide +kernel) (by decide +kernel)
set_option maxRecDepth 100000 in
set_option maxHeartbeats 4000000 in
theorem tX3_digest : GoodIn lw_tbl (wsV RL 143 RX3 yX3_digest wsX3_digest) := goodIn_app (goodIn_r _ [192, 193, 194, 28] (by decide +kernel) (by decide +kernel)) tgX3_digest
set_option maxRecDepth 100000 in
set_option maxHeartbeats 4000000 in
theorem tgX3_init : GoodIn lw_tbl wsX3_init := goodIn_r _ [46, 47, 48, 49, 50, 51, 29, 157, 158, 52, 53, 54, 55, 97, 123, 125, 56, 124, 58, 30, 98, 126, 100, 31, 60, 61, 62, 102, 103, 104, 136, 138, 140, 142, 144, 146, 148, 150, 152, 154, 159, 161, 80, 82, 84, 86, 88, 90, 92, 94, 114, 116, 118, 120] (by decide +kernel) (by decide +kernel)
set_option maxRecDepth 100000 in
set_option maxHeartbeats 4000000 in
theorem tgX5_init : GoodIn lw_tbl wsX5_init := goodIn_r _ [627, 628, 48, 49, 97, 697, 701, 703, 629, 630, 33, 705, 706, 632, 633, 662, 634, 636, 638, 640, 642, 644, 646, 650, 652, 654, 656, 707, 709, 711, 713, 715, 717, 719, 663, 665, 667, 669, 671, 673, 675, 677, 679, 681, 683, 685, 687, 689, 691, 693] (by decide +kernel) (by decide +kernel)
