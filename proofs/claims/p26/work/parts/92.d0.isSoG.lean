set_option maxRecDepth 20000 in
theorem ggL_isSo_X5_draw : GoodIn wsL_isSo wsX5_draw := goodIn_r _ [10, 11, 12, 13, 14, 15, 16, 17, 18, 19, 20, 21, 22, 23, 24, 25, 26, 27, 28, 29, 30, 31, 32, 170, 171, 172, 173, 174, 175, 176, 177, 178, 179, 180, 181, 182, 183, 184, 185, 186, 187, 188, 189, 190, 191, 192] (by decide +kernel) (by decide +kernel)
set_option maxRecDepth 20000 in
theorem gL_isSo_X5_draw : GoodIn wsL_isSo (wsV RL 92 RX5 yX5_draw wsX5_draw) := goodIn_app (goodIn_of _ (by decide +kernel)) ggL_isSo_X5_draw
set_option maxRecDepth 20000 in
theorem ggL_isSo_X5_villager : GoodIn wsL_isSo wsX5_villager := goodIn_r _ [36, 11, 37, 38, 39, 15, 40, 41, 42, 43, 44, 17, 45, 46, 47, 48, 49, 50, 51, 52, 53, 54, 55, 56, 57, 58, 59, 21, 60, 23, 26, 170, 171, 172, 173, 174, 175, 176, 177, 178, 179, 180, 181, 182, 183, 184, 185, 193, 194, 186, 187, 188, 189, 190, 191, 192] (by decide +kernel) (by decide +kernel)
set_option maxRecDepth 20000 in
theorem gL_isSo_X5_villager : GoodIn wsL_isSo (wsV RL 95 RX5 yX5_villager wsX5_villager) := goodIn_app (goodIn_of _ (by decide +kernel)) ggL_isSo_X5_villager
set_option maxRecDepth 20000 in
theorem ggL_isSo_L_seat : GoodIn wsL_isSo wsL_seat := goodIn_r _ [64] (by decide +kernel) (by decide +kernel)
set_option maxRecDepth 20000 in
theorem gL_isSo_L_seat : GoodIn wsL_isSo (va_wsS RL 9 yL_seat wsL_seat) := goodIn_app (goodIn_of _ (by decide +kernel)) ggL_isSo_L_seat
set_option maxRecDepth 20000 in
theorem ggL_isSo_L_both : GoodIn wsL_isSo wsL_both := goodIn_r _ [67] (by decide +kernel) (by decide +kernel)
set_option maxRecDepth 20000 in
theorem gL_isSo_L_both : GoodIn wsL_isSo (va_wsS RL 15 yL_both wsL_both) := goodIn_app (goodIn_of _ (by decide +kernel)) ggL_isSo_L_both
set_option maxRecDepth 20000 in
theorem ggL_isSo_L_have : GoodIn wsL_isSo wsL_have := goodIn_r _ [70] (by decide +kernel) (by decide +kernel)
set_option maxRecDepth 20000 in
theorem gL_isSo_L_have : GoodIn wsL_isSo (va_wsS RL 19 yL_have wsL_have) := goodIn_app (goodIn_of _ (by decide +kernel)) ggL_isSo_L_have
set_option maxRecDepth 20000 in
theorem ggL_isSo_X5_entry : GoodIn wsL_isSo wsX5_entry := goodIn_r _ [74, 11, 75, 76, 77, 15, 78, 79, 80, 81, 82, 43, 44, 83, 84, 85, 86, 87, 88, 89, 90, 91, 49, 92, 93, 94, 95, 42, 45, 46, 47, 48, 96, 97, 98, 99, 100, 101, 102, 53, 103, 55, 104, 105, 106, 107, 56, 108, 109, 110, 111, 112, 113, 114, 115, 41, 170, 171, 172, 173, 174, 175, 176, 177, 178, 179, 180, 181, 182, 183, 184, 185, 193, 194] (by decide +kernel) (by decide +kernel)
set_option maxRecDepth 20000 in
theorem gL_isSo_X5_entry : GoodIn wsL_isSo (wsV RL 98 RX5 yX5_entry wsX5_entry) := goodIn_app (goodIn_of _ (by decide +kernel)) ggL_isSo_X5_entry
set_option maxRecDepth 20000 in
theorem ggL_isSo_X5_elder : GoodIn wsL_isSo wsX5_elder := goodIn_r _ [119, 11, 120, 121, 122, 15, 123, 43, 44, 124, 109, 110, 53, 111, 55, 104, 105, 106, 107, 56, 108, 125, 126, 127, 128, 129, 170, 171, 172, 173, 174, 175, 176, 177, 178, 179, 180, 181, 182, 183, 184, 185, 193, 194] (by decide +kernel) (by decide +kernel)
set_option maxRecDepth 20000 in
theorem gL_isSo_X5_elder : GoodIn wsL_isSo (wsV RL 105 RX5 yX5_elder wsX5_elder) := goodIn_app (goodIn_of _ (by decide +kernel)) ggL_isSo_X5_elder
set_option maxRecDepth 20000 in
theorem ggL_isSo_X5_count : GoodIn wsL_isSo wsX5_count := goodIn_r _ [133, 134, 135, 11, 136, 137, 138, 139, 140, 141, 142, 143, 144, 145, 146, 147, 148, 149, 150, 15, 151, 49, 43, 152, 87, 81, 17, 153, 154, 155, 156, 41, 100, 101, 102, 53, 103, 55, 125, 126, 127, 128, 129, 157, 158, 159, 21, 160, 161, 162, 163, 164, 165, 23, 166, 167, 168, 169, 28, 29, 30, 31, 26, 32, 170, 171, 172, 195, 196, 197, 198, 199, 200, 201, 202, 203, 173, 174, 175, 176, 177, 178, 179, 180, 181, 182, 183, 184, 185, 193, 194, 186, 187, 188, 189, 190, 191, 192] (by decide +kernel) (by decide +kernel)
set_option maxRecDepth 20000 in
theorem gL_isSo_X5_count : GoodIn wsL_isSo (wsV RL 108 RX5 yX5_count wsX5_count) := goodIn_app (goodIn_of _ (by decide +kernel)) ggL_isSo_X5_count
