set_option maxRecDepth 20000 in
theorem ggX2_isInWay_X2_isFishing : GoodIn wsX2_isInWay wsX2_isFishing := goodIn_r _ [6, 7, 8, 9, 10, 11, 12, 13, 14, 15, 16] (by decide +kernel) (by decide +kernel)
set_option maxRecDepth 20000 in
theorem gX2_isInWay_X2_isFishing : GoodIn wsX2_isInWay (wsV RX2 37 RX2 yX2_isFishing wsX2_isFishing) := goodIn_app (goodIn_of _ (by decide +kernel)) ggX2_isInWay_X2_isFishing
set_option maxRecDepth 20000 in
theorem ggX2_breakFor_X2_loseWattle : GoodIn wsX2_breakFor wsX2_loseWattle := goodIn_r _ [11, 12, 13, 14, 15, 16, 17, 18, 19, 20] (by decide +kernel) (by decide +kernel)
set_option maxRecDepth 20000 in
theorem gX2_breakFor_X2_loseWattle : GoodIn wsX2_breakFor (wsV RX2 47 RX2 yX2_loseWattle wsX2_loseWattle) := goodIn_app (goodIn_of _ (by decide +kernel)) ggX2_breakFor_X2_loseWattle
