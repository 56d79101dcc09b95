set_option maxRecDepth 20000 in
theorem ggL_acts_L_low : GoodIn wsL_acts wsL_low := goodIn_r _ [6, 7] (by decide +kernel) (by decide +kernel)
set_option maxRecDepth 20000 in
theorem gL_acts_L_low : GoodIn wsL_acts (va_wsS RL 62 yL_low wsL_low) := goodIn_app (goodIn_of _ (by decide +kernel)) ggL_acts_L_low
set_option maxRecDepth 20000 in
theorem ggL_acts_X5_come : GoodIn wsL_acts wsX5_come := goodIn_r _ [12, 13, 14, 15, 16, 17, 18, 19, 20, 21, 22, 23, 24, 25, 26, 27, 28, 29, 30, 31, 32, 33, 34, 35, 36, 37, 38, 39, 40, 41, 42, 43, 44, 45, 46, 47, 48, 49, 50, 51, 52, 53, 54, 55, 56, 57, 58, 59, 60, 61, 62, 63, 64, 65, 66, 67, 68, 69, 70, 71, 11, 72, 73, 74, 75, 76, 77, 78, 79, 80, 81, 313, 314, 315, 316, 317, 318, 319, 320, 321, 322, 323, 324, 325, 326, 327, 328, 329, 330, 331, 332, 333, 334, 335, 336, 337, 338, 339, 340] (by decide +kernel) (by decide +kernel)
set_option maxRecDepth 20000 in
theorem gL_acts_X5_come : GoodIn wsL_acts (wsV RL 65 RX5 yX5_come wsX5_come) := goodIn_app (goodIn_of _ (by decide +kernel)) ggL_acts_X5_come
set_option maxRecDepth 20000 in
theorem ggL_acts_X5_found : GoodIn wsL_acts wsX5_found := goodIn_r _ [85, 13, 14, 15, 16, 17, 18, 19, 20, 21, 22, 23, 24, 25, 26, 27, 28, 29, 30, 31, 32, 33, 34, 35, 36, 37, 38, 39, 40, 41, 42, 43, 44, 45, 46, 47, 48, 49, 50, 51, 52, 53, 54, 55, 56, 57, 58, 59, 60, 61, 62, 63, 64, 86, 87, 88, 89, 90, 91, 92, 93, 94, 95, 96, 97, 98, 79, 80, 81, 69, 70, 71, 11, 72, 73, 74, 75, 76, 77, 78, 313, 314, 315, 316, 317, 318, 319, 320, 321, 322, 323, 324, 325, 326, 327, 328, 329, 330, 331, 332, 333, 334, 335, 336, 337, 338, 339, 340] (by decide +kernel) (by decide +kernel)
set_option maxRecDepth 20000 in
theorem gL_acts_X5_found : GoodIn wsL_acts (wsV RL 69 RX5 yX5_found wsX5_found) := goodIn_app (goodIn_of _ (by decide +kernel)) ggL_acts_X5_found
set_option maxRecDepth 20000 in
theorem ggL_acts_X5_setLot : GoodIn wsL_acts wsX5_setLot := goodIn_r _ [102, 13, 14, 15, 16, 17, 18, 19, 20, 21, 22, 23, 24, 25, 26, 27, 28, 29, 30, 31, 32, 33, 34, 35, 36, 37, 38, 39, 40, 41, 42, 43, 44, 45, 46, 47, 48, 49, 50, 51, 52, 53, 54, 55, 56, 57, 58, 59, 60, 61, 62, 63, 64, 103, 104, 105, 106, 107, 108, 109, 110, 111, 69, 70, 71, 11, 72, 73, 74, 75, 76, 77, 78, 79, 80, 81, 313, 314, 315, 316, 317, 318, 319, 320, 321, 322, 323, 324, 325, 326, 327, 328, 329, 330, 331, 332, 333, 334, 335, 336, 337, 338, 339, 340] (by decide +kernel) (by decide +kernel)
set_option maxRecDepth 20000 in
theorem gL_acts_X5_setLot : GoodIn wsL_acts (wsV RL 73 RX5 yX5_setLot wsX5_setLot) := goodIn_app (goodIn_of _ (by decide +kernel)) ggL_acts_X5_setLot
set_option maxRecDepth 20000 in
theorem ggL_acts_X5_attend : GoodIn wsL_acts wsX5_attend := goodIn_r _ [115, 13, 14, 15, 16, 17, 18, 19, 20, 21, 22, 23, 24, 25, 26, 27, 28, 29, 30, 31, 32, 33, 34, 35, 36, 37, 38, 39, 40, 41, 42, 43, 44, 45, 46, 47, 48, 49, 50, 51, 52, 53, 54, 55, 56, 57, 58, 59, 60, 61, 62, 63, 64, 116, 117, 118, 119, 120, 121, 122, 123, 124, 125, 126, 127, 69, 70, 71, 11, 72, 73, 74, 75, 76, 77, 78, 79, 80, 81, 313, 314, 315, 316, 317, 318, 319, 320, 321, 322, 323, 324, 325, 326, 327, 328, 329, 330, 331, 332, 333, 334, 335, 336, 337, 338, 339, 340] (by decide +kernel) (by decide +kernel)
set_option maxRecDepth 20000 in
theorem gL_acts_X5_attend : GoodIn wsL_acts (wsV RL 76 RX5 yX5_attend wsX5_attend) := goodIn_app (goodIn_of _ (by decide +kernel)) ggL_acts_X5_attend
set_option maxRecDepth 20000 in
theorem ggL_acts_L_counciled : GoodIn wsL_acts wsL_counciled := goodIn_r _ [130, 131, 132, 133, 5, 134, 135, 136, 137, 138, 139, 140, 141, 142, 143, 11, 144, 13, 14, 15, 16, 17, 18, 19, 20, 21, 22, 23, 24, 25, 26, 27, 28, 29, 30, 31, 32, 33, 34, 35, 36, 37, 38, 39, 40, 41, 42, 43, 44, 45, 46, 47, 48, 49, 50, 51, 52, 53, 54, 55, 56, 57, 58, 59, 60, 61, 62, 63, 64, 145, 146, 147, 148, 120, 121, 122, 123, 149, 150, 151, 152, 153, 154, 155, 156, 157, 158, 159, 160, 161, 162, 163, 164, 165, 166, 167, 168, 169, 170, 171, 172, 173, 174, 175, 176, 177, 178, 179, 180, 181, 182, 183, 184, 185, 186, 187, 188, 189, 190, 191, 192, 193, 194, 195, 196, 197, 198, 199, 200, 201, 202, 203, 204, 205, 206, 207, 208, 209, 210, 211, 212, 213, 214, 215, 216, 217, 218, 219, 220, 69, 70, 71, 72, 73, 74, 75, 76, 77, 78, 79, 80, 81, 221, 222, 223, 224, 225, 226, 227, 228, 229, 230, 231, 232, 233, 234, 235, 236, 237, 238, 239, 240, 241, 242, 243, 244, 245, 246, 247, 248, 249, 250, 251, 252, 253, 254, 255, 256, 257, 258, 259, 260, 261, 262, 263, 264, 265, 266, 267, 268, 269, 270, 271, 272, 273, 274, 275, 276, 277, 278, 279, 280, 281, 313, 314, 315, 316, 317, 318, 319, 320, 321, 322, 323, 324, 325, 326, 327, 328, 329, 330, 331, 332, 333, 334, 335, 336, 337, 338, 339, 340] (by decide +kernel) (by decide +kernel)
set_option maxRecDepth 20000 in
theorem gL_acts_L_counciled : GoodIn wsL_acts (va_wsS RL 79 yL_counciled wsL_counciled) := goodIn_app (goodIn_of _ (by decide +kernel)) ggL_acts_L_counciled
set_option maxRecDepth 20000 in
theorem ggL_acts_L_isElder : GoodIn wsL_acts wsL_isElder := goodIn_r _ [134, 135, 136, 5, 137, 138, 139, 140] (by decide +kernel) (by decide +kernel)
set_option maxRecDepth 20000 in
theorem gL_acts_L_isElder : GoodIn wsL_acts (va_wsS RL 30 yL_isElder wsL_isElder) := goodIn_app (goodIn_of _ (by decide +kernel)) ggL_acts_L_isElder
set_option maxRecDepth 20000 in
theorem ggL_acts_X5_propose : GoodIn wsL_acts wsX5_propose := goodIn_r _ [285, 13, 14, 15, 16, 17, 18, 19, 20, 21, 22, 23, 24, 25, 26, 27, 28, 29, 30, 31, 32, 33, 34, 35, 36, 37, 38, 39, 40, 41, 42, 43, 44, 45, 46, 47, 48, 49, 50, 51, 52, 53, 54, 55, 56, 57, 58, 59, 60, 61, 62, 63, 64, 286, 287, 288, 289, 120, 121, 122, 123, 256, 257, 258, 259, 153, 154, 155, 156, 157, 158, 159, 160, 161, 162, 163, 164, 205, 206, 207, 208, 265, 266, 267, 268, 185, 186, 187, 188, 189, 190, 191, 192, 193, 194, 195, 196, 197, 198, 199, 200, 169, 170, 171, 172, 173, 174, 175, 176, 201, 202, 203, 204, 209, 210, 211, 212, 213, 214, 215, 216, 149, 150, 151, 152, 217, 218, 219, 220, 69, 70, 71, 11, 72, 73, 74, 75, 76, 77, 78, 79, 80, 81, 313, 314, 315, 316, 317, 318, 319, 320, 321, 322, 323, 324, 325, 326, 327, 328, 329, 330, 331, 332, 333, 334, 335, 336, 337, 338, 339, 340] (by decide +kernel) (by decide +kernel)
set_option maxRecDepth 20000 in
theorem gL_acts_X5_propose : GoodIn wsL_acts (wsV RL 83 RX5 yX5_propose wsX5_propose) := goodIn_app (goodIn_of _ (by decide +kernel)) ggL_acts_X5_propose
set_option maxRecDepth 20000 in
theorem ggL_acts_L_writes : GoodIn wsL_acts wsL_writes := goodIn_r _ [280, 281] (by decide +kernel) (by decide +kernel)
set_option maxRecDepth 20000 in
theorem gL_acts_L_writes : GoodIn wsL_acts (va_wsS RL 57 yL_writes wsL_writes) := goodIn_app (goodIn_of _ (by decide +kernel)) ggL_acts_L_writes
set_option maxRecDepth 20000 in
theorem ggL_acts_L_agree : GoodIn wsL_acts wsL_agree := goodIn_r _ [223, 224, 225, 5, 226, 138, 139, 140] (by decide +kernel) (by decide +kernel)
set_option maxRecDepth 20000 in
theorem gL_acts_L_agree : GoodIn wsL_acts (va_wsS RL 42 yL_agree wsL_agree) := goodIn_app (goodIn_of _ (by decide +kernel)) ggL_acts_L_agree
set_option maxRecDepth 20000 in
theorem ggL_acts_X5_learn : GoodIn wsL_acts wsX5_learn := goodIn_r _ [293, 13, 14, 15, 16, 17, 18, 19, 20, 21, 22, 23, 24, 25, 26, 27, 28, 29, 30, 31, 32, 33, 34, 35, 36, 37, 38, 39, 40, 41, 42, 43, 44, 45, 46, 47, 48, 49, 50, 51, 52, 53, 54, 55, 56, 57, 58, 59, 60, 61, 62, 63, 64, 294, 295, 296, 297, 298, 299, 80, 300, 120, 121, 122, 123, 69, 70, 71, 11, 72, 73, 74, 75, 76, 77, 78, 79, 81, 313, 314, 315, 316, 317, 318, 319, 320, 321, 322, 323, 324, 325, 326, 327, 328, 329, 330, 331, 332, 333, 334, 335, 336, 337, 338, 339, 340] (by decide +kernel) (by decide +kernel)
set_option maxRecDepth 20000 in
theorem gL_acts_X5_learn : GoodIn wsL_acts (wsV RL 86 RX5 yX5_learn wsX5_learn) := goodIn_app (goodIn_of _ (by decide +kernel)) ggL_acts_X5_learn
set_option maxRecDepth 20000 in
theorem ggL_acts_X5_second : GoodIn wsL_acts wsX5_second := goodIn_r _ [304, 13, 14, 15, 16, 17, 18, 19, 20, 21, 22, 23, 24, 25, 26, 27, 28, 29, 30, 31, 32, 33, 34, 35, 36, 37, 38, 39, 40, 41, 42, 43, 44, 45, 46, 47, 48, 49, 50, 51, 52, 53, 54, 55, 56, 57, 58, 59, 60, 61, 62, 63, 64, 305, 306, 307, 308, 120, 121, 122, 123, 309, 310, 311, 312, 256, 257, 258, 259, 153, 154, 155, 156, 157, 158, 159, 160, 161, 162, 163, 164, 205, 206, 207, 208, 185, 186, 187, 188, 189, 190, 191, 192, 193, 194, 195, 196, 197, 198, 199, 200, 169, 170, 171, 172, 173, 174, 175, 176, 201, 202, 203, 204, 209, 210, 211, 212, 213, 214, 215, 216, 149, 150, 151, 152, 217, 218, 219, 220, 69, 70, 71, 11, 72, 73, 74, 75, 76, 77, 78, 79, 80, 81, 313, 314, 315, 316, 317, 318, 319, 320, 321, 322, 323, 324, 325, 326, 327, 328, 329, 330, 331, 332, 333, 334, 335, 336, 337, 338, 339, 340] (by decide +kernel) (by decide +kernel)
set_option maxRecDepth 20000 in
theorem gL_acts_X5_second : GoodIn wsL_acts (wsV RL 89 RX5 yX5_second wsX5_second) := goodIn_app (goodIn_of _ (by decide +kernel)) ggL_acts_X5_second
