set_option maxRecDepth 20000 in
theorem ggL_counciled_L_isElder : GoodIn wsL_counciled wsL_isElder := goodIn_r _ [5, 6, 7, 4, 8, 9, 10, 11] (by decide +kernel) (by decide +kernel)
set_option maxRecDepth 20000 in
theorem gL_counciled_L_isElder : GoodIn wsL_counciled (va_wsS RL 30 yL_isElder wsL_isElder) := goodIn_app (goodIn_of _ (by decide +kernel)) ggL_counciled_L_isElder
set_option maxRecDepth 20000 in
theorem ggL_counciled_X5_forge : GoodIn wsL_counciled wsX5_forge := goodIn_r _ [16, 17, 18, 19, 20, 21, 22, 23, 24, 25, 26, 27, 28, 29, 30, 31, 32, 33, 34, 35, 36, 37, 38, 39, 40, 41, 42, 43, 44, 45, 46, 47, 48, 49, 50, 51, 52, 53, 54, 55, 56, 57, 58, 59, 60, 61, 62, 63, 64, 65, 66, 67, 68, 69, 70, 71, 72, 73, 74, 75, 76, 77, 78, 79, 80, 81, 82, 83, 84, 85, 86, 87, 88, 89, 90, 91, 92, 93, 94, 95, 96, 97, 98, 99, 100, 101, 102, 103, 104, 105, 106, 107, 108, 109, 110, 111, 112, 113, 114, 115, 116, 117, 118, 119, 120, 121, 122, 123, 124, 125, 126, 127, 128, 129, 130, 131, 132, 133, 134, 135, 136, 137, 138, 139, 140, 141, 142, 143, 144, 145, 146, 147, 148, 149, 150, 151, 15, 152, 153, 154, 155, 156, 157, 158, 159, 160, 161, 223, 224, 225, 226, 227, 228, 229, 230, 231, 232, 233, 234, 235, 236, 237, 238, 239, 240, 241, 242, 243, 244, 245, 246, 247, 248, 249, 250] (by decide +kernel) (by decide +kernel)
set_option maxRecDepth 20000 in
theorem gL_counciled_X5_forge : GoodIn wsL_counciled (wsV RL 34 RX5 yX5_forge wsX5_forge) := goodIn_app (goodIn_of _ (by decide +kernel)) ggL_counciled_X5_forge
set_option maxRecDepth 20000 in
theorem ggL_counciled_L_agree : GoodIn wsL_counciled wsL_agree := goodIn_r _ [164, 165, 166, 4, 167, 9, 10, 11] (by decide +kernel) (by decide +kernel)
set_option maxRecDepth 20000 in
theorem gL_counciled_L_agree : GoodIn wsL_counciled (va_wsS RL 42 yL_agree wsL_agree) := goodIn_app (goodIn_of _ (by decide +kernel)) ggL_counciled_L_agree
set_option maxRecDepth 20000 in
theorem ggL_counciled_X5_change : GoodIn wsL_counciled wsX5_change := goodIn_r _ [171, 17, 18, 19, 20, 21, 22, 23, 24, 25, 26, 27, 28, 29, 30, 31, 32, 33, 34, 35, 36, 37, 38, 39, 40, 41, 42, 43, 44, 45, 46, 47, 48, 49, 50, 51, 52, 53, 54, 55, 56, 57, 58, 59, 60, 61, 62, 63, 64, 65, 66, 67, 68, 172, 173, 174, 175, 73, 74, 75, 76, 176, 102, 103, 104, 177, 178, 179, 180, 181, 182, 183, 184, 185, 186, 187, 188, 189, 190, 191, 192, 85, 86, 87, 88, 89, 90, 91, 92, 193, 194, 195, 196, 77, 78, 79, 80, 197, 198, 199, 200, 81, 82, 83, 84, 133, 134, 135, 136, 201, 202, 203, 204, 205, 105, 106, 107, 108, 101, 206, 207, 208, 209, 113, 114, 115, 116, 117, 118, 119, 120, 121, 122, 123, 124, 125, 126, 127, 128, 97, 98, 99, 100, 129, 130, 131, 132, 137, 138, 139, 140, 141, 142, 143, 144, 145, 146, 147, 148, 149, 150, 151, 15, 152, 153, 154, 155, 156, 157, 158, 159, 160, 161, 223, 224, 225, 226, 227, 228, 229, 230, 231, 232, 233, 234, 235, 236, 237, 238, 239, 240, 241, 242, 243, 244, 245, 246, 247, 248, 249, 250] (by decide +kernel) (by decide +kernel)
set_option maxRecDepth 20000 in
theorem gL_counciled_X5_change : GoodIn wsL_counciled (wsV RL 46 RX5 yX5_change wsX5_change) := goodIn_app (goodIn_of _ (by decide +kernel)) ggL_counciled_X5_change
set_option maxRecDepth 20000 in
theorem ggL_counciled_L_free : GoodIn wsL_counciled wsL_free := goodIn_r _ [212, 6, 7, 4, 8] (by decide +kernel) (by decide +kernel)
set_option maxRecDepth 20000 in
theorem gL_counciled_L_free : GoodIn wsL_counciled (va_wsS RL 50 yL_free wsL_free) := goodIn_app (goodIn_of _ (by decide +kernel)) ggL_counciled_L_free
set_option maxRecDepth 20000 in
theorem ggL_counciled_L_next : GoodIn wsL_counciled wsL_next := goodIn_r _ [215, 216, 217, 218] (by decide +kernel) (by decide +kernel)
set_option maxRecDepth 20000 in
theorem gL_counciled_L_next : GoodIn wsL_counciled (va_wsS RL 54 yL_next wsL_next) := goodIn_app (goodIn_of _ (by decide +kernel)) ggL_counciled_L_next
set_option maxRecDepth 20000 in
theorem ggL_counciled_L_writes : GoodIn wsL_counciled wsL_writes := goodIn_r _ [221, 222] (by decide +kernel) (by decide +kernel)
set_option maxRecDepth 20000 in
theorem gL_counciled_L_writes : GoodIn wsL_counciled (va_wsS RL 57 yL_writes wsL_writes) := goodIn_app (goodIn_of _ (by decide +kernel)) ggL_counciled_L_writes
