set_option maxRecDepth 20000 in
theorem ggX4_become_X4_copy : GoodIn wsX4_become wsX4_copy := goodIn_r _ [20, 21, 22, 23, 24] (by decide +kernel) (by decide +kernel)
set_option maxRecDepth 20000 in
theorem gX4_become_X4_copy : GoodIn wsX4_become (wsV RX4 68 RX4 yX4_copy wsX4_copy) := goodIn_app (goodIn_of _ (by decide +kernel)) ggX4_become_X4_copy
set_option maxRecDepth 20000 in
theorem ggX4_run_X4_moon : GoodIn wsX4_run wsX4_moon := goodIn_r _ [7, 2, 8, 9, 10, 11, 12, 13, 14, 15, 16, 17, 18, 19, 20, 21, 22, 23] (by decide +kernel) (by decide +kernel)
set_option maxRecDepth 20000 in
theorem gX4_run_X4_moon : GoodIn wsX4_run (wsV RX4 75 RX4 yX4_moon wsX4_moon) := goodIn_app (goodIn_of _ (by decide +kernel)) ggX4_run_X4_moon
set_option maxRecDepth 20000 in
theorem ggX4_isInWay_X4_isHeld : GoodIn wsX4_isInWay wsX4_isHeld := goodIn_r _ [7, 8, 9, 10, 11, 12, 13, 14, 15, 16, 17, 18, 19, 20, 21, 22, 23, 24] (by decide +kernel) (by decide +kernel)
set_option maxRecDepth 20000 in
theorem gX4_isInWay_X4_isHeld : GoodIn wsX4_isInWay (wsV RX4 79 RX4 yX4_isHeld wsX4_isHeld) := goodIn_app (goodIn_of _ (by decide +kernel)) ggX4_isInWay_X4_isHeld
set_option maxRecDepth 20000 in
theorem ggX4_runDown_X4_run : GoodIn wsX4_runDown wsX4_run := goodIn_r _ [14, 1, 15, 16, 17, 18, 13, 19, 25, 26, 27, 28, 29, 30, 31, 32, 33, 34, 35, 36, 37, 38, 39, 40, 41, 42, 43, 44, 45, 46, 47] (by decide +kernel) (by decide +kernel)
set_option maxRecDepth 20000 in
theorem gX4_runDown_X4_run : GoodIn wsX4_runDown (wsV RX4 83 RX4 yX4_run wsX4_run) := goodIn_app (goodIn_of _ (by decide +kernel)) ggX4_runDown_X4_run
set_option maxRecDepth 20000 in
theorem ggX4_runDown_X4_isHeld : GoodIn wsX4_runDown wsX4_isHeld := goodIn_r _ [23, 24, 25, 26, 27, 28, 29, 30, 31, 32, 33, 34, 35, 36, 37, 38, 39, 40] (by decide +kernel) (by decide +kernel)
set_option maxRecDepth 20000 in
theorem gX4_runDown_X4_isHeld : GoodIn wsX4_runDown (wsV RX4 79 RX4 yX4_isHeld wsX4_isHeld) := goodIn_app (goodIn_of _ (by decide +kernel)) ggX4_runDown_X4_isHeld
set_option maxRecDepth 20000 in
theorem ggX4_breaks_X4_isInWay : GoodIn wsX4_breaks wsX4_isInWay := goodIn_r _ [20, 21, 4, 22, 23, 24, 19, 25, 26, 27, 28, 29, 30, 31, 32, 33, 34, 35, 36, 37, 38, 39, 40, 41, 42] (by decide +kernel) (by decide +kernel)
set_option maxRecDepth 20000 in
theorem gX4_breaks_X4_isInWay : GoodIn wsX4_breaks (wsV RX4 98 RX4 yX4_isInWay wsX4_isInWay) := goodIn_app (goodIn_of _ (by decide +kernel)) ggX4_breaks_X4_isInWay
set_option maxRecDepth 20000 in
theorem ggX4_goUp_X4_breaks : GoodIn wsX4_goUp wsX4_breaks := goodIn_r _ [6, 7, 1, 8, 9, 10, 11, 12, 13, 14, 15, 16, 17, 18, 19, 20, 21, 22, 23, 5, 24, 25, 26, 27, 28, 29, 30, 31, 32, 33, 34, 35, 36, 37, 38, 39, 40, 41, 42, 43, 44, 45, 46, 47, 48, 49, 50, 51, 52, 53] (by decide +kernel) (by decide +kernel)
set_option maxRecDepth 20000 in
theorem gX4_goUp_X4_breaks : GoodIn wsX4_goUp (wsV RX4 105 RX4 yX4_breaks wsX4_breaks) := goodIn_app (goodIn_of _ (by decide +kernel)) ggX4_goUp_X4_breaks
set_option maxRecDepth 20000 in
theorem ggX4_pass_X4_runDown : GoodIn wsX4_pass wsX4_runDown := goodIn_r _ [13, 2, 14, 15, 3, 16, 17, 18, 6, 19, 20, 21, 22, 12, 23, 8, 24, 25, 26, 27, 28, 29, 30, 31, 32, 61, 62, 63, 64, 65, 66, 67, 68, 69, 70, 71, 72, 73, 74, 75, 76, 77, 78, 79, 80, 81, 82, 83] (by decide +kernel) (by decide +kernel)
set_option maxRecDepth 20000 in
theorem gX4_pass_X4_runDown : GoodIn wsX4_pass (wsV RX4 111 RX4 yX4_runDown wsX4_runDown) := goodIn_app (goodIn_of _ (by decide +kernel)) ggX4_pass_X4_runDown
set_option maxRecDepth 20000 in
theorem ggX4_pass_X4_goUp : GoodIn wsX4_pass wsX4_goUp := goodIn_r _ [36, 37, 38, 39, 40, 12, 41, 2, 42, 15, 3, 4, 5, 6, 7, 43, 17, 18, 19, 44, 45, 46, 47, 48, 49, 14, 28, 29, 30, 31, 32, 61, 62, 63, 64, 65, 66, 67, 68, 69, 70, 71, 72, 73, 74, 75, 76, 77, 78, 79, 80, 81, 82, 83] (by decide +kernel) (by decide +kernel)
set_option maxRecDepth 20000 in
theorem gX4_pass_X4_goUp : GoodIn wsX4_pass (wsV RX4 115 RX4 yX4_goUp wsX4_goUp) := goodIn_app (goodIn_of _ (by decide +kernel)) ggX4_pass_X4_goUp
set_option maxRecDepth 20000 in
theorem ggX4_pass_X4_leave : GoodIn wsX4_pass wsX4_leave := goodIn_r _ [53, 1, 37, 54, 42, 45, 55, 61, 62, 63, 64, 65, 66, 67, 68, 69, 70, 71, 72, 73, 74, 75, 76] (by decide +kernel) (by decide +kernel)
set_option maxRecDepth 20000 in
theorem gX4_pass_X4_leave : GoodIn wsX4_pass (wsV RX4 119 RX4 yX4_leave wsX4_leave) := goodIn_app (goodIn_of _ (by decide +kernel)) ggX4_pass_X4_leave
set_option maxRecDepth 20000 in
theorem ggX4_pass_X4_isHeld : GoodIn wsX4_pass wsX4_isHeld := goodIn_r _ [31, 32, 61, 62, 63, 64, 65, 66, 67, 68, 69, 70, 71, 72, 73, 74, 75, 76] (by decide +kernel) (by decide +kernel)
set_option maxRecDepth 20000 in
theorem gX4_pass_X4_isHeld : GoodIn wsX4_pass (wsV RX4 79 RX4 yX4_isHeld wsX4_isHeld) := goodIn_app (goodIn_of _ (by decide +kernel)) ggX4_pass_X4_isHeld
set_option maxRecDepth 20000 in
theorem ggX4_pass_X4_moon : GoodIn wsX4_pass wsX4_moon := goodIn_r _ [27, 8, 61, 62, 63, 64, 65, 66, 67, 68, 69, 70, 71, 72, 73, 74, 75, 76] (by decide +kernel) (by decide +kernel)
set_option maxRecDepth 20000 in
theorem gX4_pass_X4_moon : GoodIn wsX4_pass (wsV RX4 75 RX4 yX4_moon wsX4_moon) := goodIn_app (goodIn_of _ (by decide +kernel)) ggX4_pass_X4_moon
set_option maxRecDepth 20000 in
theorem ggX4_pass_X4_payRent : GoodIn wsX4_pass wsX4_payRent := goodIn_r _ [59, 43, 2, 60, 32, 16, 61, 62, 63, 64, 65, 66, 67, 68, 69, 70, 71, 72, 73, 74, 75, 76, 77, 78, 79, 80, 81, 82, 83] (by decide +kernel) (by decide +kernel)
set_option maxRecDepth 20000 in
theorem gX4_pass_X4_payRent : GoodIn wsX4_pass (wsV RX4 122 RX4 yX4_payRent wsX4_payRent) := goodIn_app (goodIn_of _ (by decide +kernel)) ggX4_pass_X4_payRent
set_option maxRecDepth 20000 in
theorem ggX4_pass__X4_pass : GoodIn wsX4_pass_ wsX4_pass := goodIn_r _ [5, 6, 7, 8, 9, 10, 11, 12, 13, 14, 15, 16, 4, 17, 18, 19, 20, 21, 22, 23, 24, 25, 26, 27, 28, 29, 30, 31, 32, 33, 34, 35, 36, 37, 38, 39, 40, 41, 42, 43, 44, 45, 46, 47, 48, 49, 50, 51, 52, 53, 54, 55, 56, 57, 58, 59, 60, 61, 62, 63, 64, 65, 66, 67, 68, 69, 70, 71, 72, 73, 74, 75, 76, 77, 78, 79, 80, 81, 82, 83, 84, 85, 86, 87] (by decide +kernel) (by decide +kernel)
set_option maxRecDepth 20000 in
theorem gX4_pass__X4_pass : GoodIn wsX4_pass_ (wsV RX4 125 RX4 yX4_pass wsX4_pass) := goodIn_app (goodIn_of _ (by decide +kernel)) ggX4_pass__X4_pass
set_option maxRecDepth 20000 in
theorem ggX4_held_X4_isHeld : GoodIn wsX4_held wsX4_isHeld := goodIn_r _ [6, 7, 8, 9, 10, 11, 12, 13, 14, 15, 16, 17, 18, 19, 20, 21, 22, 23] (by decide +kernel) (by decide +kernel)
set_option maxRecDepth 20000 in
theorem gX4_held_X4_isHeld : GoodIn wsX4_held (wsV RX4 79 RX4 yX4_isHeld wsX4_isHeld) := goodIn_app (goodIn_of _ (by decide +kernel)) ggX4_held_X4_isHeld
set_option maxRecDepth 20000 in
theorem ggX4_counted_X4_moon : GoodIn wsX4_counted wsX4_moon := goodIn_r _ [12, 2, 31, 32, 33, 34, 35, 36, 37, 38, 39, 40, 41, 42, 43, 44, 45, 46] (by decide +kernel) (by decide +kernel)
set_option maxRecDepth 20000 in
theorem gX4_counted_X4_moon : GoodIn wsX4_counted (wsV RX4 75 RX4 yX4_moon wsX4_moon) := goodIn_app (goodIn_of _ (by decide +kernel)) ggX4_counted_X4_moon
set_option maxRecDepth 20000 in
theorem ggX4_counted_X4_run : GoodIn wsX4_counted wsX4_run := goodIn_r _ [16, 3, 2, 8, 9, 10, 11, 12, 31, 32, 33, 34, 35, 36, 37, 38, 39, 40, 41, 42, 43, 44, 45, 46, 47, 48, 49, 50, 51, 52, 53] (by decide +kernel) (by decide +kernel)
set_option maxRecDepth 20000 in
theorem gX4_counted_X4_run : GoodIn wsX4_counted (wsV RX4 83 RX4 yX4_run wsX4_run) := goodIn_app (goodIn_of _ (by decide +kernel)) ggX4_counted_X4_run
set_option maxRecDepth 20000 in
theorem ggX4_counted_X4_held : GoodIn wsX4_counted wsX4_held := goodIn_r _ [20, 3, 21, 22, 23, 11, 24, 25, 31, 32, 33, 34, 35, 36, 37, 38, 39, 40, 41, 42, 43, 44, 45, 46, 47, 48, 49, 50, 51, 52, 53] (by decide +kernel) (by decide +kernel)
set_option maxRecDepth 20000 in
theorem gX4_counted_X4_held : GoodIn wsX4_counted (wsV RX4 128 RX4 yX4_held wsX4_held) := goodIn_app (goodIn_of _ (by decide +kernel)) ggX4_counted_X4_held
set_option maxRecDepth 20000 in
theorem ggX4_counted_X4_allEels : GoodIn wsX4_counted wsX4_allEels := goodIn_r _ [29, 3, 30, 31, 32, 33, 34, 35, 36, 37, 38, 39, 40, 41, 42, 43, 44, 45, 46, 47, 48, 49, 50, 51, 52, 53] (by decide +kernel) (by decide +kernel)
set_option maxRecDepth 20000 in
theorem gX4_counted_X4_allEels : GoodIn wsX4_counted (wsV RX4 131 RX4 yX4_allEels wsX4_allEels) := goodIn_app (goodIn_of _ (by decide +kernel)) ggX4_counted_X4_allEels
