set_option maxRecDepth 20000 in
theorem ggX3_foresee_X1_copyFrom : GoodIn wsX3_foresee wsX1_copyFrom := goodIn_r _ [15, 16, 17, 18, 19, 20, 21, 22, 23, 24, 25, 26, 14, 27, 28, 29, 30, 31, 32, 33, 34, 35, 36, 37, 38, 39, 40, 41, 42, 43, 44, 45, 46, 47, 48, 49, 50, 51, 52, 53, 54, 55, 56, 57, 58, 59, 60, 61, 62, 63, 64, 65, 66, 67, 68, 69, 172, 173, 174, 175, 176, 177, 178, 179, 180, 181, 182, 183, 184, 185, 186, 187, 188, 189, 190, 191, 192, 193] (by decide +kernel) (by decide +kernel)
set_option maxRecDepth 20000 in
theorem gX3_foresee_X1_copyFrom : GoodIn wsX3_foresee (wsV RX3 149 RX1 yX1_copyFrom wsX1_copyFrom) := goodIn_app (goodIn_of _ (by decide +kernel)) ggX3_foresee_X1_copyFrom
set_option maxRecDepth 20000 in
theorem ggX3_foresee_X1_goThroughNights : GoodIn wsX3_foresee wsX1_goThroughNights := goodIn_r _ [73, 20, 74, 75, 76, 14, 77, 18, 78, 79, 80, 81, 82, 83, 84, 85, 24, 25, 26, 27, 16, 86, 87, 88, 89, 28, 29, 30, 31, 17, 32, 33, 34, 35, 36, 90, 91, 92, 43, 93, 52, 51, 94, 95, 96, 97, 46, 47, 50, 98, 99, 100, 101, 102, 103, 104, 105, 19, 106, 53, 54, 55, 56, 57, 107, 108, 109, 110, 111, 112, 113, 114, 115, 116, 117, 118, 119, 120, 64, 121, 68, 122, 123, 124, 125, 126, 22, 127, 128, 129, 130, 131, 49, 132, 133, 134, 135, 136, 137, 138, 139, 21, 58, 59, 60, 61, 62, 63, 65, 66, 67, 69, 140, 141, 142, 143, 144, 145, 146, 147, 148, 149, 150, 151, 152, 23, 153, 154, 155, 156, 48, 172, 173, 174, 175, 176, 177, 178, 179, 180, 181, 182, 183, 184, 185, 186, 187, 188, 189, 190, 191, 192, 193] (by decide +kernel) (by decide +kernel)
set_option maxRecDepth 20000 in
theorem gX3_foresee_X1_goThroughNights : GoodIn wsX3_foresee (wsV RX3 145 RX1 yX1_goThroughNights wsX1_goThroughNights) := goodIn_app (goodIn_of _ (by decide +kernel)) ggX3_foresee_X1_goThroughNights
set_option maxRecDepth 20000 in
theorem ggX3_foresee_X1_fact : GoodIn wsX3_foresee wsX1_fact := goodIn_r _ [160, 20, 18, 19, 21, 22, 23, 86, 87, 88, 14, 89, 82, 83, 84, 85, 78, 79, 80, 81, 24, 25, 26, 27, 16, 161, 162, 163, 164, 32, 33, 34, 35, 36, 144, 145, 146, 43, 147, 52, 165, 166, 167, 168, 169, 172, 173, 174, 175, 176, 177, 178, 179, 180, 181, 182, 183, 184, 185, 186, 187, 188, 189] (by decide +kernel) (by decide +kernel)
set_option maxRecDepth 20000 in
theorem gX3_foresee_X1_fact : GoodIn wsX3_foresee (wsV RX3 133 RX1 yX1_fact wsX1_fact) := goodIn_app (goodIn_of _ (by decide +kernel)) ggX3_foresee_X1_fact
set_option maxRecDepth 20000 in
theorem ggX3_advise_X1_weirAt : GoodIn wsX3_advise wsX1_weirAt := goodIn_r _ [10, 11, 12, 167, 168, 169, 170, 171, 172, 173, 174, 175, 176] (by decide +kernel) (by decide +kernel)
set_option maxRecDepth 20000 in
theorem gX3_advise_X1_weirAt : GoodIn wsX3_advise (wsV RX3 43 RX1 yX1_weirAt wsX1_weirAt) := goodIn_app (goodIn_of _ (by decide +kernel)) ggX3_advise_X1_weirAt
set_option maxRecDepth 20000 in
theorem ggX3_advise_X3_isWithin : GoodIn wsX3_advise wsX3_isWithin := goodIn_r _ [16] (by decide +kernel) (by decide +kernel)
set_option maxRecDepth 20000 in
theorem gX3_advise_X3_isWithin : GoodIn wsX3_advise (va_wsS RX3 19 yX3_isWithin wsX3_isWithin) := goodIn_app (goodIn_of _ (by decide +kernel)) ggX3_advise_X3_isWithin
set_option maxRecDepth 20000 in
theorem ggX3_advise_X2_isFishing : GoodIn wsX3_advise wsX2_isFishing := goodIn_r _ [21, 22, 23, 177, 178, 179, 180, 181, 182, 183, 184] (by decide +kernel) (by decide +kernel)
set_option maxRecDepth 20000 in
theorem gX3_advise_X2_isFishing : GoodIn wsX3_advise (wsV RX3 173 RX2 yX2_isFishing wsX2_isFishing) := goodIn_app (goodIn_of _ (by decide +kernel)) ggX3_advise_X2_isFishing
set_option maxRecDepth 20000 in
theorem ggX3_advise_X3_eelsWithStakes : GoodIn wsX3_advise wsX3_eelsWithStakes := goodIn_r _ [27, 28, 5, 29, 30, 31, 32, 33, 9, 34, 35, 36, 11, 37, 38, 39, 40, 41, 42, 43, 44, 45, 46, 47, 48, 49, 50, 7, 8, 10, 12, 51, 52, 53, 54, 55, 56, 20, 57, 58, 59, 60, 61, 62, 63, 23, 22, 64, 65, 66, 67, 68, 69, 70, 71, 72, 73, 74, 75, 76, 77, 78, 79, 80, 6, 81, 82, 83, 84, 85, 86, 87, 88, 89, 90, 91, 92, 93, 94, 95, 96, 97, 98, 99, 100, 101, 18, 19, 21, 102, 103, 104, 105, 106, 107, 108, 109, 110, 111, 112, 113, 114, 115, 116, 117, 118, 119, 120, 121, 122, 123, 124, 125, 126, 127, 128, 129, 130, 131, 132, 133, 134, 135, 136, 137, 138, 139, 140, 141, 142, 143, 144, 145, 146, 147, 148, 149, 150, 151, 152, 153, 154, 155, 156, 157, 158, 159, 160, 161, 162, 163, 164, 165, 166, 177, 178, 179, 180, 181, 182, 183, 184, 167, 168, 169, 170, 171, 172, 173, 174, 175, 176, 185, 186, 187, 188] (by decide +kernel) (by decide +kernel)
set_option maxRecDepth 20000 in
theorem gX3_advise_X3_eelsWithStakes : GoodIn wsX3_advise (wsV RX3 176 RX3 yX3_eelsWithStakes wsX3_eelsWithStakes) := goodIn_app (goodIn_of _ (by decide +kernel)) ggX3_advise_X3_eelsWithStakes
set_option maxRecDepth 20000 in
theorem ggX3_mean_X1_heldWeirs : GoodIn wsX3_mean wsX1_heldWeirs := goodIn_r _ [6, 7, 8, 9, 10, 5, 11, 12, 13, 14, 15, 16, 17, 18, 26, 27, 28, 29, 30, 31, 32, 33, 34, 35, 36, 37, 38, 39, 40, 41, 42, 43] (by decide +kernel) (by decide +kernel)
set_option maxRecDepth 20000 in
theorem gX3_mean_X1_heldWeirs : GoodIn wsX3_mean (wsV RX3 179 RX1 yX1_heldWeirs wsX1_heldWeirs) := goodIn_app (goodIn_of _ (by decide +kernel)) ggX3_mean_X1_heldWeirs
set_option maxRecDepth 20000 in
theorem ggX3_mean_X1_heldWattle : GoodIn wsX3_mean wsX1_heldWattle := goodIn_r _ [22, 7, 23, 8, 9, 10, 5, 11, 12, 13, 14, 15, 16, 17, 18, 26, 27, 28, 29, 30, 31, 32, 33, 34, 35, 36, 37, 38, 39, 40, 41, 42, 43] (by decide +kernel) (by decide +kernel)
set_option maxRecDepth 20000 in
theorem gX3_mean_X1_heldWattle : GoodIn wsX3_mean (wsV RX3 182 RX1 yX1_heldWattle wsX1_heldWattle) := goodIn_app (goodIn_of _ (by decide +kernel)) ggX3_mean_X1_heldWattle
set_option maxRecDepth 20000 in
theorem ggX3_digest_X1_fact : GoodIn wsX3_digest wsX1_fact := goodIn_r _ [8, 9, 10, 11, 12, 13, 14, 15, 16, 17, 7, 18, 19, 20, 21, 22, 23, 24, 25, 26, 27, 28, 29, 30, 31, 32, 33, 34, 35, 36, 37, 38, 39, 40, 41, 42, 43, 44, 45, 46, 47, 48, 49, 50, 51, 103, 104, 105, 106, 107, 108, 109, 110, 111, 112, 113, 114, 115, 116, 117, 118, 119, 120] (by decide +kernel) (by decide +kernel)
set_option maxRecDepth 20000 in
theorem gX3_digest_X1_fact : GoodIn wsX3_digest (wsV RX3 133 RX1 yX1_fact wsX1_fact) := goodIn_app (goodIn_of _ (by decide +kernel)) ggX3_digest_X1_fact
set_option maxRecDepth 20000 in
theorem ggX3_digest_X1_tableEels : GoodIn wsX3_digest wsX1_tableEels := goodIn_r _ [30, 31, 103, 104, 105, 106, 107, 108, 109, 110, 111, 112] (by decide +kernel) (by decide +kernel)
set_option maxRecDepth 20000 in
theorem gX3_digest_X1_tableEels : GoodIn wsX3_digest (wsV RX3 98 RX1 yX1_tableEels wsX1_tableEels) := goodIn_app (goodIn_of _ (by decide +kernel)) ggX3_digest_X1_tableEels
set_option maxRecDepth 20000 in
theorem ggX3_digest_X3_digestOfWeirs : GoodIn wsX3_digest wsX3_digestOfWeirs := goodIn_r _ [57, 3, 58, 2, 59, 37, 38, 7, 39, 10, 40, 60, 61, 62, 44, 63, 64, 65, 66, 67, 68, 69, 70, 46, 101, 102, 103, 104, 105, 106, 107, 108, 109, 110, 111, 112, 113, 114, 115, 116, 117, 118, 119, 120] (by decide +kernel) (by decide +kernel)
set_option maxRecDepth 20000 in
theorem gX3_digest_X3_digestOfWeirs : GoodIn wsX3_digest (wsV RX3 189 RX3 yX3_digestOfWeirs wsX3_digestOfWeirs) := goodIn_app (goodIn_of _ (by decide +kernel)) ggX3_digest_X3_digestOfWeirs
set_option maxRecDepth 20000 in
theorem ggX3_digest_X3_digestOfBarges : GoodIn wsX3_digest wsX3_digestOfBarges := goodIn_r _ [74, 3, 75, 2, 76, 77, 78, 7, 79, 11, 80, 81, 82, 83, 84, 85, 86, 87, 88, 89, 90, 91, 10, 92, 36, 37, 38, 39, 40, 93, 94, 95, 44, 96, 65, 97, 98, 99, 100, 46, 70, 101, 102, 103, 104, 105, 106, 107, 108, 109, 110, 111, 112, 121, 122, 123, 124, 113, 114, 115, 116, 117, 118, 119, 120] (by decide +kernel) (by decide +kernel)
set_option maxRecDepth 20000 in
theorem gX3_digest_X3_digestOfBarges : GoodIn wsX3_digest (wsV RX3 193 RX3 yX3_digestOfBarges wsX3_digestOfBarges) := goodIn_app (goodIn_of _ (by decide +kernel)) ggX3_digest_X3_digestOfBarges
set_option maxRecDepth 20000 in
theorem ggX3_digestOfWeirs_X1_weirAt : GoodIn wsX3_digestOfWeirs wsX1_weirAt := goodIn_r _ [8, 9, 10, 26, 27, 28, 29, 30, 31, 32, 33, 34, 35] (by decide +kernel) (by decide +kernel)
set_option maxRecDepth 20000 in
theorem gX3_digestOfWeirs_X1_weirAt : GoodIn wsX3_digestOfWeirs (wsV RX3 43 RX1 yX1_weirAt wsX1_weirAt) := goodIn_app (goodIn_of _ (by decide +kernel)) ggX3_digestOfWeirs_X1_weirAt
set_option maxRecDepth 20000 in
theorem ggX3_digestOfWeirs_X2_fact : GoodIn wsX3_digestOfWeirs wsX2_fact := goodIn_r _ [15, 16, 17, 18, 19, 20, 21, 22, 23, 36, 37, 38, 39, 40, 41, 42, 43] (by decide +kernel) (by decide +kernel)
set_option maxRecDepth 20000 in
theorem gX3_digestOfWeirs_X2_fact : GoodIn wsX3_digestOfWeirs (wsV RX3 118 RX2 yX2_fact wsX2_fact) := goodIn_app (goodIn_of _ (by decide +kernel)) ggX3_digestOfWeirs_X2_fact
set_option maxRecDepth 20000 in
theorem ggX3_digestOfBarges_X1_bargeAt : GoodIn wsX3_digestOfBarges wsX1_bargeAt := goodIn_r _ [8, 9, 10, 43, 44, 45, 46, 47, 48, 49, 50, 51, 52] (by decide +kernel) (by decide +kernel)
set_option maxRecDepth 20000 in
theorem gX3_digestOfBarges_X1_bargeAt : GoodIn wsX3_digestOfBarges (wsV RX3 121 RX1 yX1_bargeAt wsX1_bargeAt) := goodIn_app (goodIn_of _ (by decide +kernel)) ggX3_digestOfBarges_X1_bargeAt
set_option maxRecDepth 20000 in
theorem ggX3_digestOfBarges_X1_bargeFact : GoodIn wsX3_digestOfBarges wsX1_bargeFact := goodIn_r _ [14, 15, 16, 17, 18, 19, 20, 7, 21, 22, 23, 24, 25, 26, 27, 28, 29, 30, 31, 32, 33, 34, 35, 36, 37, 38, 39, 40, 53, 54, 55, 56, 43, 44, 45, 46, 47, 48, 49, 50, 51, 52, 57, 58, 59, 60, 61, 62, 63, 64] (by decide +kernel) (by decide +kernel)
set_option maxRecDepth 20000 in
theorem gX3_digestOfBarges_X1_bargeFact : GoodIn wsX3_digestOfBarges (wsV RX3 127 RX1 yX1_bargeFact wsX1_bargeFact) := goodIn_app (goodIn_of _ (by decide +kernel)) ggX3_digestOfBarges_X1_bargeFact
set_option maxRecDepth 20000 in
theorem ggX3_eelsWithStakes_X1_copyFrom : GoodIn wsX3_eelsWithStakes wsX1_copyFrom := goodIn_r _ [9, 10, 11, 12, 13, 14, 15, 16, 17, 18, 19, 20, 8, 21, 22, 23, 24, 25, 26, 27, 28, 29, 30, 31, 32, 33, 34, 35, 36, 37, 38, 39, 40, 41, 42, 43, 44, 45, 46, 47, 48, 49, 50, 51, 52, 53, 54, 55, 56, 57, 58, 59, 60, 61, 62, 63, 162, 163, 164, 165, 166, 167, 168, 169, 170, 171, 154, 155, 156, 157, 158, 159, 160, 161, 172, 173, 174, 175] (by decide +kernel) (by decide +kernel)
set_option maxRecDepth 20000 in
theorem gX3_eelsWithStakes_X1_copyFrom : GoodIn wsX3_eelsWithStakes (wsV RX3 149 RX1 yX1_copyFrom wsX1_copyFrom) := goodIn_app (goodIn_of _ (by decide +kernel)) ggX3_eelsWithStakes_X1_copyFrom
set_option maxRecDepth 20000 in
theorem ggX3_eelsWithStakes_X1_weirAt : GoodIn wsX3_eelsWithStakes wsX1_weirAt := goodIn_r _ [29, 12, 30, 162, 163, 164, 165, 166, 167, 168, 169, 170, 171] (by decide +kernel) (by decide +kernel)
set_option maxRecDepth 20000 in
theorem gX3_eelsWithStakes_X1_weirAt : GoodIn wsX3_eelsWithStakes (wsV RX3 43 RX1 yX1_weirAt wsX1_weirAt) := goodIn_app (goodIn_of _ (by decide +kernel)) ggX3_eelsWithStakes_X1_weirAt
set_option maxRecDepth 20000 in
theorem ggX3_eelsWithStakes_X1_goThroughNights : GoodIn wsX3_eelsWithStakes wsX1_goThroughNights := goodIn_r _ [68, 14, 69, 70, 71, 8, 72, 12, 73, 74, 75, 76, 77, 78, 79, 80, 18, 19, 20, 21, 10, 81, 82, 83, 84, 22, 23, 24, 25, 11, 26, 27, 28, 29, 30, 85, 86, 87, 37, 88, 46, 45, 89, 90, 91, 92, 40, 41, 44, 93, 94, 95, 96, 97, 98, 99, 100, 13, 101, 47, 48, 49, 50, 51, 102, 103, 104, 105, 106, 107, 108, 109, 110, 111, 112, 113, 114, 115, 58, 116, 62, 117, 118, 119, 120, 121, 16, 122, 123, 124, 125, 126, 43, 127, 128, 129, 130, 131, 132, 133, 134, 15, 52, 53, 54, 55, 56, 57, 59, 60, 61, 63, 135, 136, 137, 138, 139, 140, 141, 142, 143, 144, 145, 146, 147, 17, 148, 149, 150, 151, 42, 162, 163, 164, 165, 166, 167, 168, 169, 170, 171, 154, 155, 156, 157, 158, 159, 160, 161, 172, 173, 174, 175] (by decide +kernel) (by decide +kernel)
set_option maxRecDepth 20000 in
theorem gX3_eelsWithStakes_X1_goThroughNights : GoodIn wsX3_eelsWithStakes (wsV RX3 145 RX1 yX1_goThroughNights wsX1_goThroughNights) := goodIn_app (goodIn_of _ (by decide +kernel)) ggX3_eelsWithStakes_X1_goThroughNights
