set_option maxRecDepth 20000 in
theorem ggX5_catches_X4_runDown : GoodIn wsX5_catches wsX4_runDown := goodIn_r _ [44, 45, 27, 23, 24, 26, 46, 47, 48, 49, 50, 51, 52, 16, 53, 18, 54, 55, 56, 57, 58, 59, 60, 61, 28, 73, 74, 75, 76, 77, 78, 79, 80, 81, 82, 83, 84, 85, 86, 87, 88, 66, 67, 68, 69, 70, 71, 72] (by decide +kernel) (by decide +kernel)
set_option maxRecDepth 20000 in
theorem gX5_catches_X4_runDown : GoodIn wsX5_catches (wsV RX5 118 RX4 yX4_runDown wsX4_runDown) := goodIn_app (goodIn_of _ (by decide +kernel)) ggX5_catches_X4_runDown
set_option maxRecDepth 20000 in
theorem ggX5_catches_X5_no : GoodIn wsX5_catches wsX5_no := goodIn_r _ [65, 1, 66, 67, 68, 69, 70, 71, 72] (by decide +kernel) (by decide +kernel)
set_option maxRecDepth 20000 in
theorem gX5_catches_X5_no : GoodIn wsX5_catches (wsV RX5 45 RX5 yX5_no wsX5_no) := goodIn_app (goodIn_of _ (by decide +kernel)) ggX5_catches_X5_no
set_option maxRecDepth 20000 in
theorem ggX5_arrives_X5_isBarge : GoodIn wsX5_arrives wsX5_isBarge := goodIn_r _ [8, 3, 9, 10, 7, 11, 96, 97, 98, 99, 100, 101, 102, 103, 104, 105, 106, 107, 108, 109, 110, 111, 112, 113, 114, 115, 116, 117, 118] (by decide +kernel) (by decide +kernel)
set_option maxRecDepth 20000 in
theorem gX5_arrives_X5_isBarge : GoodIn wsX5_arrives (wsV RX5 98 RX5 yX5_isBarge wsX5_isBarge) := goodIn_app (goodIn_of _ (by decide +kernel)) ggX5_arrives_X5_isBarge
set_option maxRecDepth 20000 in
theorem ggX5_arrives_X5_no : GoodIn wsX5_arrives wsX5_no := goodIn_r _ [15, 1, 96, 97, 98, 99, 100, 101, 102] (by decide +kernel) (by decide +kernel)
set_option maxRecDepth 20000 in
theorem gX5_arrives_X5_no : GoodIn wsX5_arrives (wsV RX5 45 RX5 yX5_no wsX5_no) := goodIn_app (goodIn_of _ (by decide +kernel)) ggX5_arrives_X5_no
set_option maxRecDepth 20000 in
theorem ggX5_arrives_X4_become : GoodIn wsX5_arrives wsX4_become := goodIn_r _ [20, 21, 22, 23, 24, 25, 26, 27, 28, 29, 30, 31, 32, 33, 34, 35, 36, 37, 38, 19, 39, 40, 41, 42, 43, 103, 104, 105, 106, 107, 108, 109, 110, 111, 112, 113, 114, 115, 116, 117, 118] (by decide +kernel) (by decide +kernel)
set_option maxRecDepth 20000 in
theorem gX5_arrives_X4_become : GoodIn wsX5_arrives (wsV RX5 114 RX4 yX4_become wsX4_become) := goodIn_app (goodIn_of _ (by decide +kernel)) ggX5_arrives_X4_become
set_option maxRecDepth 20000 in
theorem ggX5_arrives_X5_isUnderWay : GoodIn wsX5_arrives wsX5_isUnderWay := goodIn_r _ [47, 2, 96, 97, 98, 99, 100, 101, 102, 103, 104, 105, 106, 107, 108, 109, 110, 111, 112, 113, 114, 115, 116, 117, 118] (by decide +kernel) (by decide +kernel)
set_option maxRecDepth 20000 in
theorem gX5_arrives_X5_isUnderWay : GoodIn wsX5_arrives (wsV RX5 124 RX5 yX5_isUnderWay wsX5_isUnderWay) := goodIn_app (goodIn_of _ (by decide +kernel)) ggX5_arrives_X5_isUnderWay
set_option maxRecDepth 20000 in
theorem ggX5_arrives_X4_pass : GoodIn wsX5_arrives wsX4_pass := goodIn_r _ [51, 22, 52, 27, 53, 54, 55, 56, 21, 57, 58, 59, 19, 60, 30, 26, 29, 61, 62, 63, 64, 65, 66, 67, 68, 69, 70, 71, 72, 73, 74, 75, 31, 76, 77, 78, 79, 33, 80, 81, 82, 83, 32, 28, 24, 34, 84, 85, 86, 87, 88, 89, 90, 91, 23, 35, 92, 93, 94, 95, 25, 103, 104, 105, 106, 107, 108, 109, 110, 111, 112, 113, 114, 115, 116, 117, 118, 96, 97, 98, 99, 100, 101, 102] (by decide +kernel) (by decide +kernel)
set_option maxRecDepth 20000 in
theorem gX5_arrives_X4_pass : GoodIn wsX5_arrives (wsV RX5 127 RX4 yX4_pass wsX4_pass) := goodIn_app (goodIn_of _ (by decide +kernel)) ggX5_arrives_X4_pass
set_option maxRecDepth 20000 in
theorem ggX5_lasts_X5_isWeir : GoodIn wsX5_lasts wsX5_isWeir := goodIn_r _ [8, 9, 10, 11, 7, 12, 94, 95, 96, 97, 98, 99, 100] (by decide +kernel) (by decide +kernel)
set_option maxRecDepth 20000 in
theorem gX5_lasts_X5_isWeir : GoodIn wsX5_lasts (wsV RX5 58 RX5 yX5_isWeir wsX5_isWeir) := goodIn_app (goodIn_of _ (by decide +kernel)) ggX5_lasts_X5_isWeir
set_option maxRecDepth 20000 in
theorem ggX5_lasts_X5_no : GoodIn wsX5_lasts wsX5_no := goodIn_r _ [16, 1, 94, 95, 96, 97, 98, 99, 100] (by decide +kernel) (by decide +kernel)
set_option maxRecDepth 20000 in
theorem gX5_lasts_X5_no : GoodIn wsX5_lasts (wsV RX5 45 RX5 yX5_no wsX5_no) := goodIn_app (goodIn_of _ (by decide +kernel)) ggX5_lasts_X5_no
set_option maxRecDepth 20000 in
theorem ggX5_lasts_X4_become : GoodIn wsX5_lasts wsX4_become := goodIn_r _ [21, 22, 23, 24, 25, 26, 27, 28, 29, 30, 31, 32, 33, 34, 35, 36, 37, 38, 39, 20, 40, 41, 42, 43, 44, 101, 102, 103, 104, 105, 106, 107, 108, 109, 110, 111, 112, 113, 114, 115, 116] (by decide +kernel) (by decide +kernel)
set_option maxRecDepth 20000 in
theorem gX5_lasts_X4_become : GoodIn wsX5_lasts (wsV RX5 114 RX4 yX4_become wsX4_become) := goodIn_app (goodIn_of _ (by decide +kernel)) ggX5_lasts_X4_become
set_option maxRecDepth 20000 in
theorem ggX5_lasts_X4_isHeld : GoodIn wsX5_lasts wsX4_isHeld := goodIn_r _ [48, 32, 101, 102, 103, 104, 105, 106, 107, 108, 109, 110, 111, 112, 113, 114, 115, 116] (by decide +kernel) (by decide +kernel)
set_option maxRecDepth 20000 in
theorem gX5_lasts_X4_isHeld : GoodIn wsX5_lasts (wsV RX5 62 RX4 yX4_isHeld wsX4_isHeld) := goodIn_app (goodIn_of _ (by decide +kernel)) ggX5_lasts_X4_isHeld
set_option maxRecDepth 20000 in
theorem ggX5_lasts_X4_pass : GoodIn wsX5_lasts wsX4_pass := goodIn_r _ [52, 23, 53, 28, 54, 55, 56, 57, 22, 58, 59, 60, 20, 61, 31, 27, 30, 62, 63, 64, 65, 66, 67, 68, 69, 70, 71, 72, 73, 46, 47, 48, 32, 74, 75, 76, 77, 34, 78, 79, 80, 81, 33, 29, 25, 35, 82, 83, 84, 85, 86, 87, 88, 89, 24, 36, 90, 91, 92, 93, 26, 101, 102, 103, 104, 105, 106, 107, 108, 109, 110, 111, 112, 113, 114, 115, 116, 94, 95, 96, 97, 98, 99, 100] (by decide +kernel) (by decide +kernel)
set_option maxRecDepth 20000 in
theorem gX5_lasts_X4_pass : GoodIn wsX5_lasts (wsV RX5 127 RX4 yX4_pass wsX4_pass) := goodIn_app (goodIn_of _ (by decide +kernel)) ggX5_lasts_X4_pass
set_option maxRecDepth 20000 in
theorem ggX5_foresee_X5_isIn : GoodIn wsX5_foresee wsX5_isIn := goodIn_r _ [7] (by decide +kernel) (by decide +kernel)
set_option maxRecDepth 20000 in
theorem gX5_foresee_X5_isIn : GoodIn wsX5_foresee (va_wsS RX5 38 yX5_isIn wsX5_isIn) := goodIn_app (goodIn_of _ (by decide +kernel)) ggX5_foresee_X5_isIn
set_option maxRecDepth 20000 in
theorem ggX5_foresee_X5_no : GoodIn wsX5_foresee wsX5_no := goodIn_r _ [11, 1, 105, 106, 107, 108, 109, 110, 111] (by decide +kernel) (by decide +kernel)
set_option maxRecDepth 20000 in
theorem gX5_foresee_X5_no : GoodIn wsX5_foresee (wsV RX5 45 RX5 yX5_no wsX5_no) := goodIn_app (goodIn_of _ (by decide +kernel)) ggX5_foresee_X5_no
set_option maxRecDepth 20000 in
theorem ggX5_foresee_X4_become : GoodIn wsX5_foresee wsX4_become := goodIn_r _ [16, 17, 18, 19, 20, 21, 22, 23, 24, 25, 26, 27, 28, 29, 30, 31, 32, 33, 34, 15, 35, 36, 37, 38, 39, 112, 113, 114, 115, 116, 117, 118, 119, 120, 121, 122, 123, 124, 125, 126, 127] (by decide +kernel) (by decide +kernel)
set_option maxRecDepth 20000 in
theorem gX5_foresee_X4_become : GoodIn wsX5_foresee (wsV RX5 114 RX4 yX4_become wsX4_become) := goodIn_app (goodIn_of _ (by decide +kernel)) ggX5_foresee_X4_become
set_option maxRecDepth 20000 in
theorem ggX5_foresee_X4_pass_ : GoodIn wsX5_foresee wsX4_pass_ := goodIn_r _ [43, 44, 45, 46, 15, 47, 18, 48, 23, 49, 50, 51, 52, 17, 53, 54, 55, 56, 26, 22, 25, 57, 58, 59, 60, 61, 62, 63, 64, 65, 66, 67, 68, 69, 70, 71, 27, 72, 73, 74, 75, 29, 76, 77, 78, 79, 28, 24, 20, 30, 80, 81, 82, 83, 84, 85, 86, 87, 19, 31, 88, 89, 90, 91, 21, 112, 113, 114, 115, 116, 117, 118, 119, 120, 121, 122, 123, 124, 125, 126, 127, 105, 106, 107, 108, 109, 110, 111] (by decide +kernel) (by decide +kernel)
set_option maxRecDepth 20000 in
theorem gX5_foresee_X4_pass_ : GoodIn wsX5_foresee (wsV RX5 110 RX4 yX4_pass_ wsX4_pass_) := goodIn_app (goodIn_of _ (by decide +kernel)) ggX5_foresee_X4_pass_
set_option maxRecDepth 20000 in
theorem ggX5_foresee_X4_counted : GoodIn wsX5_foresee wsX4_counted := goodIn_r _ [95, 96, 17, 48, 18, 19, 20, 21, 64, 65, 66, 15, 67, 60, 61, 62, 63, 97, 98, 99, 100, 68, 69, 70, 71, 27, 101, 102, 103, 104, 25, 112, 113, 114, 115, 116, 117, 118, 119, 120, 121, 122, 123, 124, 125, 126, 127, 105, 106, 107, 108, 109, 110, 111] (by decide +kernel) (by decide +kernel)
set_option maxRecDepth 20000 in
theorem gX5_foresee_X4_counted : GoodIn wsX5_foresee (wsV RX5 104 RX4 yX4_counted wsX4_counted) := goodIn_app (goodIn_of _ (by decide +kernel)) ggX5_foresee_X4_counted
set_option maxRecDepth 20000 in
theorem ggX5_advise_X5_isWeir : GoodIn wsX5_advise wsX5_isWeir := goodIn_r _ [8, 9, 10, 11, 7, 12, 97, 98, 99, 100, 101, 102, 103] (by decide +kernel) (by decide +kernel)
set_option maxRecDepth 20000 in
theorem gX5_advise_X5_isWeir : GoodIn wsX5_advise (wsV RX5 58 RX5 yX5_isWeir wsX5_isWeir) := goodIn_app (goodIn_of _ (by decide +kernel)) ggX5_advise_X5_isWeir
set_option maxRecDepth 20000 in
theorem ggX5_advise_X5_no : GoodIn wsX5_advise wsX5_no := goodIn_r _ [16, 1, 97, 98, 99, 100, 101, 102, 103] (by decide +kernel) (by decide +kernel)
set_option maxRecDepth 20000 in
theorem gX5_advise_X5_no : GoodIn wsX5_advise (wsV RX5 45 RX5 yX5_no wsX5_no) := goodIn_app (goodIn_of _ (by decide +kernel)) ggX5_advise_X5_no
set_option maxRecDepth 20000 in
theorem ggX5_advise_X5_isIn : GoodIn wsX5_advise wsX5_isIn := goodIn_r _ [12] (by decide +kernel) (by decide +kernel)
set_option maxRecDepth 20000 in
theorem gX5_advise_X5_isIn : GoodIn wsX5_advise (va_wsS RX5 38 yX5_isIn wsX5_isIn) := goodIn_app (goodIn_of _ (by decide +kernel)) ggX5_advise_X5_isIn
set_option maxRecDepth 20000 in
theorem ggX5_advise_X4_become : GoodIn wsX5_advise wsX4_become := goodIn_r _ [21, 22, 23, 24, 25, 26, 27, 28, 29, 30, 31, 32, 33, 34, 35, 36, 37, 38, 39, 20, 40, 41, 42, 43, 44, 104, 105, 106, 107, 108, 109, 110, 111, 112, 113, 114, 115, 116, 117, 118, 119] (by decide +kernel) (by decide +kernel)
set_option maxRecDepth 20000 in
theorem gX5_advise_X4_become : GoodIn wsX5_advise (wsV RX5 114 RX4 yX4_become wsX4_become) := goodIn_app (goodIn_of _ (by decide +kernel)) ggX5_advise_X4_become
set_option maxRecDepth 20000 in
theorem ggX5_advise_X4_pass_ : GoodIn wsX5_advise wsX4_pass_ := goodIn_r _ [48, 49, 50, 51, 20, 52, 23, 53, 28, 54, 55, 56, 57, 22, 58, 59, 60, 61, 31, 27, 30, 62, 63, 64, 65, 66, 67, 68, 69, 70, 71, 72, 73, 74, 75, 76, 32, 77, 78, 79, 80, 34, 81, 82, 83, 84, 33, 29, 25, 35, 85, 86, 87, 88, 89, 90, 91, 92, 24, 36, 93, 94, 95, 96, 26, 104, 105, 106, 107, 108, 109, 110, 111, 112, 113, 114, 115, 116, 117, 118, 119, 97, 98, 99, 100, 101, 102, 103] (by decide +kernel) (by decide +kernel)
set_option maxRecDepth 20000 in
theorem gX5_advise_X4_pass_ : GoodIn wsX5_advise (wsV RX5 110 RX4 yX4_pass_ wsX4_pass_) := goodIn_app (goodIn_of _ (by decide +kernel)) ggX5_advise_X4_pass_
set_option maxRecDepth 20000 in
theorem ggX5_mean_X4_isHeld : GoodIn wsX5_mean wsX4_isHeld := goodIn_r _ [8, 9, 23, 24, 25, 26, 27, 28, 29, 30, 31, 32, 33, 34, 35, 36, 37, 38] (by decide +kernel) (by decide +kernel)
set_option maxRecDepth 20000 in
theorem gX5_mean_X4_isHeld : GoodIn wsX5_mean (wsV RX5 62 RX4 yX4_isHeld wsX4_isHeld) := goodIn_app (goodIn_of _ (by decide +kernel)) ggX5_mean_X4_isHeld
set_option maxRecDepth 20000 in
theorem ggX5_mean_X4_held : GoodIn wsX5_mean wsX4_held := goodIn_r _ [13, 14, 15, 5, 6, 7, 8, 9, 23, 24, 25, 26, 27, 28, 29, 30, 31, 32, 33, 34, 35, 36, 37, 38, 16, 17, 18, 19, 20, 21, 22] (by decide +kernel) (by decide +kernel)
set_option maxRecDepth 20000 in
theorem gX5_mean_X4_held : GoodIn wsX5_mean (wsV RX5 129 RX4 yX4_held wsX4_held) := goodIn_app (goodIn_of _ (by decide +kernel)) ggX5_mean_X4_held
set_option maxRecDepth 20000 in
theorem ggX5_digest_X4_counted : GoodIn wsX5_digest wsX4_counted := goodIn_r _ [11, 12, 13, 14, 15, 16, 17, 18, 19, 20, 21, 10, 22, 23, 24, 25, 26, 27, 28, 29, 30, 31, 32, 33, 34, 35, 36, 37, 38, 39, 40, 69, 70, 71, 72, 73, 74, 75, 76, 77, 78, 79, 80, 81, 82, 83, 84, 62, 63, 64, 65, 66, 67, 68] (by decide +kernel) (by decide +kernel)
set_option maxRecDepth 20000 in
theorem gX5_digest_X4_counted : GoodIn wsX5_digest (wsV RX5 104 RX4 yX4_counted wsX4_counted) := goodIn_app (goodIn_of _ (by decide +kernel)) ggX5_digest_X4_counted
set_option maxRecDepth 20000 in
theorem ggX5_digest_X5_weirTold : GoodIn wsX5_digest wsX5_weirTold := goodIn_r _ [45, 12, 46, 4, 47, 62, 63, 64, 65, 66, 67, 68, 69, 70, 71, 72, 73, 74, 75, 76, 77, 78, 79, 80, 81, 82, 83, 84] (by decide +kernel) (by decide +kernel)
set_option maxRecDepth 20000 in
theorem gX5_digest_X5_weirTold : GoodIn wsX5_digest (wsV RX5 87 RX5 yX5_weirTold wsX5_weirTold) := goodIn_app (goodIn_of _ (by decide +kernel)) ggX5_digest_X5_weirTold
set_option maxRecDepth 20000 in
theorem ggX5_digest_X5_bargeTold : GoodIn wsX5_digest wsX5_bargeTold := goodIn_r _ [51, 4, 52, 53, 54, 44, 55, 6, 46, 56, 57, 58, 10, 59, 60, 61, 31, 32, 33, 34, 35, 62, 63, 64, 65, 66, 67, 68, 69, 70, 71, 72, 73, 74, 75, 76, 77, 78, 79, 80, 81, 82, 83, 84] (by decide +kernel) (by decide +kernel)
set_option maxRecDepth 20000 in
theorem gX5_digest_X5_bargeTold : GoodIn wsX5_digest (wsV RX5 101 RX5 yX5_bargeTold wsX5_bargeTold) := goodIn_app (goodIn_of _ (by decide +kernel)) ggX5_digest_X5_bargeTold
