set_option maxRecDepth 20000 in
theorem ggL_law_X5_init : GoodIn wsL_law wsX5_init := goodIn_r _ [8, 9, 10, 11, 12, 13, 14, 15, 16, 17, 18, 19, 20, 21, 22, 23, 24, 25, 26, 27, 28, 29, 30, 31, 32, 33, 34, 35, 36, 37, 38, 39, 40, 41, 42, 43, 44, 45, 46, 47, 48, 49, 50, 51, 52, 53, 54, 55, 56, 57, 58, 59, 60, 61, 62, 63, 64, 65, 773, 774, 775, 776, 777, 778, 779, 780, 781, 782, 783, 784, 785, 761, 762, 763, 786, 787, 788, 789, 790, 791, 792, 793, 794, 795, 796, 797, 798, 799, 800, 801, 802, 803] (by decide +kernel) (by decide +kernel)
set_option maxRecDepth 20000 in
theorem gL_law_X5_init : GoodIn wsL_law (wsX5_init) := ggL_law_X5_init
set_option maxRecDepth 20000 in
theorem ggL_law_X6_init : GoodIn wsL_law wsX6_init := goodIn_r _ [68, 69, 10, 11, 27, 70, 71, 72, 73, 764, 765, 766, 767, 768, 769, 770, 771, 772] (by decide +kernel) (by decide +kernel)
set_option maxRecDepth 20000 in
theorem gL_law_X6_init : GoodIn wsL_law (wsX6_init) := ggL_law_X6_init
set_option maxRecDepth 20000 in
theorem ggL_law_X5_come : GoodIn wsL_law wsX5_come := goodIn_r _ [77, 19, 15, 78, 79, 80, 18, 81, 61, 82, 83, 84, 85, 14, 86, 87, 28, 88, 89, 90, 91, 29, 33, 34, 92, 35, 39, 93, 94, 40, 41, 42, 95, 96, 97, 32, 98, 99, 46, 100, 101, 102, 103, 38, 104, 50, 105, 51, 106, 52, 53, 54, 55, 107, 108, 109, 110, 111, 112, 113, 2, 114, 115, 116, 117, 118, 119, 120, 121, 122, 123, 761, 762, 763, 786, 787, 788, 773, 774, 775, 776, 777, 778, 779, 780, 781, 782, 783, 784, 785, 795, 796, 797, 798, 799, 800, 801, 802, 803] (by decide +kernel) (by decide +kernel)
set_option maxRecDepth 20000 in
theorem gL_law_X5_come : GoodIn wsL_law (wsV RL 13 RX5 yX5_come wsX5_come) := goodIn_app (goodIn_of _ (by decide +kernel)) ggL_law_X5_come
set_option maxRecDepth 20000 in
theorem ggL_law_X6_come : GoodIn wsL_law wsX6_come := goodIn_r _ [127, 70, 128, 129, 130, 5, 131, 132, 133, 71, 764, 765, 766, 767, 768, 769, 770, 771, 772] (by decide +kernel) (by decide +kernel)
set_option maxRecDepth 20000 in
theorem gL_law_X6_come : GoodIn wsL_law (wsV RL 17 RX6 yX6_come wsX6_come) := goodIn_app (goodIn_of _ (by decide +kernel)) ggL_law_X6_come
set_option maxRecDepth 20000 in
theorem ggL_law_X5_attend : GoodIn wsL_law wsX5_attend := goodIn_r _ [137, 19, 15, 78, 79, 80, 18, 81, 61, 82, 83, 84, 85, 14, 86, 87, 28, 88, 89, 90, 91, 29, 33, 34, 92, 35, 39, 93, 94, 40, 41, 42, 95, 96, 97, 32, 98, 99, 46, 100, 101, 102, 103, 38, 104, 50, 105, 51, 106, 52, 53, 54, 55, 138, 139, 140, 141, 142, 143, 144, 145, 146, 147, 148, 149, 111, 112, 113, 2, 114, 115, 116, 117, 118, 119, 120, 121, 122, 123, 761, 762, 763, 786, 787, 788, 773, 774, 775, 776, 777, 778, 779, 780, 781, 782, 783, 784, 785, 795, 796, 797, 798, 799, 800, 801, 802, 803] (by decide +kernel) (by decide +kernel)
set_option maxRecDepth 20000 in
theorem gL_law_X5_attend : GoodIn wsL_law (wsV RL 18 RX5 yX5_attend wsX5_attend) := goodIn_app (goodIn_of _ (by decide +kernel)) ggL_law_X5_attend
set_option maxRecDepth 20000 in
theorem ggL_law_X6_attend : GoodIn wsL_law wsX6_attend := goodIn_r _ [153, 70, 154, 155, 156, 5, 157, 158, 159, 160, 128, 129, 130, 131, 132, 133, 71, 161, 162, 163, 164, 764, 765, 766, 767, 768, 769, 770, 771, 772] (by decide +kernel) (by decide +kernel)
set_option maxRecDepth 20000 in
theorem gL_law_X6_attend : GoodIn wsL_law (wsV RL 22 RX6 yX6_attend wsX6_attend) := goodIn_app (goodIn_of _ (by decide +kernel)) ggL_law_X6_attend
set_option maxRecDepth 20000 in
theorem ggL_law_X5_found : GoodIn wsL_law wsX5_found := goodIn_r _ [168, 19, 15, 78, 79, 80, 18, 81, 61, 82, 83, 84, 85, 14, 86, 87, 28, 88, 89, 90, 91, 29, 33, 34, 92, 35, 39, 93, 94, 40, 41, 42, 95, 96, 97, 32, 98, 99, 46, 100, 101, 102, 103, 38, 104, 50, 105, 51, 106, 52, 53, 54, 55, 169, 170, 171, 172, 173, 174, 175, 176, 177, 178, 179, 180, 181, 121, 122, 123, 111, 112, 113, 2, 114, 115, 116, 117, 118, 119, 120, 761, 762, 763, 786, 787, 788, 773, 774, 775, 776, 777, 778, 779, 780, 781, 782, 783, 784, 785, 795, 796, 797, 798, 799, 800, 801, 802, 803] (by decide +kernel) (by decide +kernel)
set_option maxRecDepth 20000 in
theorem gL_law_X5_found : GoodIn wsL_law (wsV RL 23 RX5 yX5_found wsX5_found) := goodIn_app (goodIn_of _ (by decide +kernel)) ggL_law_X5_found
set_option maxRecDepth 20000 in
theorem ggL_law_X6_found : GoodIn wsL_law wsX6_found := goodIn_r _ [185, 70, 158, 159, 5, 160, 128, 129, 130, 131, 132, 133, 71, 764, 765, 766, 767, 768, 769, 770, 771, 772] (by decide +kernel) (by decide +kernel)
set_option maxRecDepth 20000 in
theorem gL_law_X6_found : GoodIn wsL_law (wsV RL 27 RX6 yX6_found wsX6_found) := goodIn_app (goodIn_of _ (by decide +kernel)) ggL_law_X6_found
set_option maxRecDepth 20000 in
theorem ggL_law_X5_setLot : GoodIn wsL_law wsX5_setLot := goodIn_r _ [189, 19, 15, 78, 79, 80, 18, 81, 61, 82, 83, 84, 85, 14, 86, 87, 28, 88, 89, 90, 91, 29, 33, 34, 92, 35, 39, 93, 94, 40, 41, 42, 95, 96, 97, 32, 98, 99, 46, 100, 101, 102, 103, 38, 104, 50, 105, 51, 106, 52, 53, 54, 55, 190, 191, 192, 193, 194, 195, 196, 197, 198, 111, 112, 113, 2, 114, 115, 116, 117, 118, 119, 120, 121, 122, 123, 761, 762, 763, 786, 787, 788, 773, 774, 775, 776, 777, 778, 779, 780, 781, 782, 783, 784, 785, 795, 796, 797, 798, 799, 800, 801, 802, 803] (by decide +kernel) (by decide +kernel)
set_option maxRecDepth 20000 in
theorem gL_law_X5_setLot : GoodIn wsL_law (wsV RL 28 RX5 yX5_setLot wsX5_setLot) := goodIn_app (goodIn_of _ (by decide +kernel)) ggL_law_X5_setLot
set_option maxRecDepth 20000 in
theorem ggL_law_X6_setLot : GoodIn wsL_law wsX6_setLot := goodIn_r _ [202, 203, 70, 158, 159, 5, 160, 128, 129, 130, 131, 132, 133, 71, 764, 765, 766, 767, 768, 769, 770, 771, 772] (by decide +kernel) (by decide +kernel)
set_option maxRecDepth 20000 in
theorem gL_law_X6_setLot : GoodIn wsL_law (wsV RL 31 RX6 yX6_setLot wsX6_setLot) := goodIn_app (goodIn_of _ (by decide +kernel)) ggL_law_X6_setLot
set_option maxRecDepth 20000 in
theorem ggL_law_X5_change : GoodIn wsL_law wsX5_change := goodIn_r _ [207, 19, 15, 78, 79, 80, 18, 81, 61, 82, 83, 84, 85, 14, 86, 87, 28, 88, 89, 90, 91, 29, 33, 34, 92, 35, 39, 93, 94, 40, 41, 42, 95, 96, 97, 32, 98, 99, 46, 100, 101, 102, 103, 38, 104, 50, 105, 51, 106, 52, 53, 54, 55, 208, 209, 210, 211, 142, 143, 144, 145, 212, 213, 214, 215, 216, 217, 218, 219, 220, 221, 222, 223, 224, 225, 226, 227, 228, 229, 230, 231, 232, 233, 234, 235, 236, 237, 238, 239, 240, 241, 242, 243, 244, 245, 246, 247, 248, 249, 250, 251, 252, 253, 254, 255, 256, 257, 258, 259, 260, 261, 262, 263, 264, 265, 266, 267, 268, 269, 270, 271, 272, 273, 274, 275, 276, 277, 278, 279, 280, 281, 282, 283, 284, 285, 286, 287, 288, 289, 290, 291, 292, 293, 294, 295, 296, 297, 298, 299, 300, 301, 302, 303, 304, 305, 306, 307, 308, 309, 111, 112, 113, 2, 114, 115, 116, 117, 118, 119, 120, 121, 122, 123, 761, 762, 763, 786, 787, 788, 773, 774, 775, 776, 777, 778, 779, 780, 781, 782, 783, 784, 785, 795, 796, 797, 798, 799, 800, 801, 802, 803] (by decide +kernel) (by decide +kernel)
set_option maxRecDepth 20000 in
theorem gL_law_X5_change : GoodIn wsL_law (wsV RL 32 RX5 yX5_change wsX5_change) := goodIn_app (goodIn_of _ (by decide +kernel)) ggL_law_X5_change
set_option maxRecDepth 20000 in
theorem ggL_law_X6_change : GoodIn wsL_law wsX6_change := goodIn_r _ [313, 70, 154, 155, 156, 5, 157, 314, 315, 316, 317, 318, 319, 320, 321, 322, 323, 324, 325, 326, 327, 328, 329, 330, 331, 332, 333, 334, 335, 336, 337, 338, 339, 340, 341, 342, 343, 344, 345, 128, 129, 130, 131, 132, 133, 71, 346, 347, 348, 349, 350, 351, 352, 353, 354, 355, 356, 357, 358, 359, 360, 361, 362, 363, 364, 365, 366, 367, 368, 369, 370, 371, 372, 373, 374, 375, 764, 765, 766, 767, 768, 769, 770, 771, 772] (by decide +kernel) (by decide +kernel)
set_option maxRecDepth 20000 in
theorem gL_law_X6_change : GoodIn wsL_law (wsV RL 35 RX6 yX6_change wsX6_change) := goodIn_app (goodIn_of _ (by decide +kernel)) ggL_law_X6_change
set_option maxRecDepth 20000 in
theorem ggL_law_X5_forge : GoodIn wsL_law wsX5_forge := goodIn_r _ [379, 19, 15, 78, 79, 80, 18, 81, 61, 82, 83, 84, 85, 14, 86, 87, 28, 88, 89, 90, 91, 29, 33, 34, 92, 35, 39, 93, 94, 40, 41, 42, 95, 96, 97, 32, 98, 99, 46, 100, 101, 102, 103, 38, 104, 50, 105, 51, 106, 52, 53, 54, 55, 380, 381, 382, 383, 142, 143, 144, 145, 244, 245, 246, 247, 252, 253, 254, 255, 232, 233, 234, 235, 236, 237, 238, 239, 384, 385, 386, 387, 290, 291, 292, 293, 269, 213, 214, 215, 265, 266, 267, 268, 388, 389, 390, 391, 274, 275, 276, 277, 278, 279, 280, 281, 282, 283, 284, 285, 286, 287, 288, 289, 294, 295, 296, 297, 256, 257, 258, 259, 298, 299, 300, 301, 302, 303, 304, 305, 306, 307, 308, 309, 111, 112, 113, 2, 114, 115, 116, 117, 118, 119, 120, 121, 122, 123, 761, 762, 763, 786, 787, 788, 773, 774, 775, 776, 777, 778, 779, 780, 781, 782, 783, 784, 785, 795, 796, 797, 798, 799, 800, 801, 802, 803] (by decide +kernel) (by decide +kernel)
set_option maxRecDepth 20000 in
theorem gL_law_X5_forge : GoodIn wsL_law (wsV RL 36 RX5 yX5_forge wsX5_forge) := goodIn_app (goodIn_of _ (by decide +kernel)) ggL_law_X5_forge
set_option maxRecDepth 20000 in
theorem ggL_law_X6_forge : GoodIn wsL_law wsX6_forge := goodIn_r _ [395, 70, 154, 155, 156, 5, 157, 326, 327, 328, 329, 334, 335, 336, 337, 322, 323, 324, 325, 338, 339, 340, 341, 128, 129, 130, 131, 132, 133, 71, 360, 361, 362, 363, 364, 365, 366, 367, 368, 369, 370, 371, 372, 373, 374, 375, 764, 765, 766, 767, 768, 769, 770, 771, 772] (by decide +kernel) (by decide +kernel)
set_option maxRecDepth 20000 in
theorem gL_law_X6_forge : GoodIn wsL_law (wsV RL 39 RX6 yX6_forge wsX6_forge) := goodIn_app (goodIn_of _ (by decide +kernel)) ggL_law_X6_forge
set_option maxRecDepth 20000 in
theorem ggL_law_X5_propose : GoodIn wsL_law wsX5_propose := goodIn_r _ [399, 19, 15, 78, 79, 80, 18, 81, 61, 82, 83, 84, 85, 14, 86, 87, 28, 88, 89, 90, 91, 29, 33, 34, 92, 35, 39, 93, 94, 40, 41, 42, 95, 96, 97, 32, 98, 99, 46, 100, 101, 102, 103, 38, 104, 50, 105, 51, 106, 52, 53, 54, 55, 400, 401, 402, 403, 142, 143, 144, 145, 248, 249, 250, 251, 252, 253, 254, 255, 232, 233, 234, 235, 236, 237, 238, 239, 256, 257, 258, 259, 270, 271, 272, 273, 274, 275, 276, 277, 278, 279, 280, 281, 282, 283, 284, 285, 286, 287, 288, 289, 290, 291, 292, 293, 269, 213, 214, 215, 294, 295, 296, 297, 298, 299, 300, 301, 302, 303, 304, 305, 244, 245, 246, 247, 306, 307, 308, 309, 111, 112, 113, 2, 114, 115, 116, 117, 118, 119, 120, 121, 122, 123, 761, 762, 763, 786, 787, 788, 773, 774, 775, 776, 777, 778, 779, 780, 781, 782, 783, 784, 785, 795, 796, 797, 798, 799, 800, 801, 802, 803] (by decide +kernel) (by decide +kernel)
set_option maxRecDepth 20000 in
theorem gL_law_X5_propose : GoodIn wsL_law (wsV RL 40 RX5 yX5_propose wsX5_propose) := goodIn_app (goodIn_of _ (by decide +kernel)) ggL_law_X5_propose
set_option maxRecDepth 20000 in
theorem ggL_law_X6_propose : GoodIn wsL_law wsX6_propose := goodIn_r _ [407, 70, 154, 155, 156, 5, 157, 158, 159, 160, 330, 331, 332, 333, 334, 335, 336, 337, 322, 323, 324, 325, 338, 339, 340, 341, 326, 327, 328, 329, 342, 343, 344, 345, 128, 129, 130, 131, 132, 133, 71, 356, 357, 358, 359, 360, 361, 362, 363, 364, 365, 366, 367, 368, 369, 370, 371, 372, 373, 374, 375, 764, 765, 766, 767, 768, 769, 770, 771, 772] (by decide +kernel) (by decide +kernel)
set_option maxRecDepth 20000 in
theorem gL_law_X6_propose : GoodIn wsL_law (wsV RL 43 RX6 yX6_propose wsX6_propose) := goodIn_app (goodIn_of _ (by decide +kernel)) ggL_law_X6_propose
set_option maxRecDepth 20000 in
theorem ggL_law_X5_second : GoodIn wsL_law wsX5_second := goodIn_r _ [411, 19, 15, 78, 79, 80, 18, 81, 61, 82, 83, 84, 85, 14, 86, 87, 28, 88, 89, 90, 91, 29, 33, 34, 92, 35, 39, 93, 94, 40, 41, 42, 95, 96, 97, 32, 98, 99, 46, 100, 101, 102, 103, 38, 104, 50, 105, 51, 106, 52, 53, 54, 55, 412, 413, 414, 415, 142, 143, 144, 145, 416, 417, 418, 419, 248, 249, 250, 251, 252, 253, 254, 255, 232, 233, 234, 235, 236, 237, 238, 239, 256, 257, 258, 259, 274, 275, 276, 277, 278, 279, 280, 281, 282, 283, 284, 285, 286, 287, 288, 289, 290, 291, 292, 293, 269, 213, 214, 215, 294, 295, 296, 297, 298, 299, 300, 301, 302, 303, 304, 305, 244, 245, 246, 247, 306, 307, 308, 309, 111, 112, 113, 2, 114, 115, 116, 117, 118, 119, 120, 121, 122, 123, 761, 762, 763, 786, 787, 788, 773, 774, 775, 776, 777, 778, 779, 780, 781, 782, 783, 784, 785, 795, 796, 797, 798, 799, 800, 801, 802, 803] (by decide +kernel) (by decide +kernel)
set_option maxRecDepth 20000 in
theorem gL_law_X5_second : GoodIn wsL_law (wsV RL 44 RX5 yX5_second wsX5_second) := goodIn_app (goodIn_of _ (by decide +kernel)) ggL_law_X5_second
set_option maxRecDepth 20000 in
theorem ggL_law_X6_second : GoodIn wsL_law wsX6_second := goodIn_r _ [423, 70, 154, 155, 156, 5, 157, 424, 425, 426, 427, 334, 335, 336, 337, 322, 323, 324, 325, 338, 339, 340, 341, 326, 327, 328, 329, 342, 343, 344, 345, 128, 129, 130, 131, 132, 133, 71, 360, 361, 362, 363, 364, 365, 366, 367, 368, 369, 370, 371, 372, 373, 374, 375, 764, 765, 766, 767, 768, 769, 770, 771, 772] (by decide +kernel) (by decide +kernel)
set_option maxRecDepth 20000 in
theorem gL_law_X6_second : GoodIn wsL_law (wsV RL 47 RX6 yX6_second wsX6_second) := goodIn_app (goodIn_of _ (by decide +kernel)) ggL_law_X6_second
set_option maxRecDepth 20000 in
theorem ggL_law_X5_learn : GoodIn wsL_law wsX5_learn := goodIn_r _ [431, 19, 15, 78, 79, 80, 18, 81, 61, 82, 83, 84, 85, 14, 86, 87, 28, 88, 89, 90, 91, 29, 33, 34, 92, 35, 39, 93, 94, 40, 41, 42, 95, 96, 97, 32, 98, 99, 46, 100, 101, 102, 103, 38, 104, 50, 105, 51, 106, 52, 53, 54, 55, 432, 433, 434, 435, 436, 437, 122, 438, 142, 143, 144, 145, 111, 112, 113, 2, 114, 115, 116, 117, 118, 119, 120, 121, 123, 761, 762, 763, 786, 787, 788, 773, 774, 775, 776, 777, 778, 779, 780, 781, 782, 783, 784, 785, 795, 796, 797, 798, 799, 800, 801, 802, 803] (by decide +kernel) (by decide +kernel)
set_option maxRecDepth 20000 in
theorem gL_law_X5_learn : GoodIn wsL_law (wsV RL 48 RX5 yX5_learn wsX5_learn) := goodIn_app (goodIn_of _ (by decide +kernel)) ggL_law_X5_learn
set_option maxRecDepth 20000 in
theorem ggL_law_X6_learn : GoodIn wsL_law wsX6_learn := goodIn_r _ [442, 70, 154, 155, 156, 5, 157, 342, 343, 344, 345, 128, 129, 130, 131, 132, 133, 71, 764, 765, 766, 767, 768, 769, 770, 771, 772] (by decide +kernel) (by decide +kernel)
set_option maxRecDepth 20000 in
theorem gL_law_X6_learn : GoodIn wsL_law (wsV RL 51 RX6 yX6_learn wsX6_learn) := goodIn_app (goodIn_of _ (by decide +kernel)) ggL_law_X6_learn
set_option maxRecDepth 20000 in
theorem ggL_law_X5_undo : GoodIn wsL_law wsX5_undo := goodIn_r _ [446, 19, 15, 447, 448, 449, 18, 450, 119, 82, 451, 452, 453, 454, 61, 83, 84, 85, 14, 86, 87, 28, 88, 89, 90, 91, 29, 33, 34, 92, 35, 39, 93, 94, 40, 41, 42, 95, 96, 97, 32, 98, 99, 46, 100, 101, 102, 103, 38, 104, 50, 105, 51, 106, 52, 53, 54, 55, 761, 762, 763, 786, 787, 788, 773, 774, 775, 776, 777, 778, 779, 780, 781, 782, 783, 784, 785, 795, 796, 797, 798, 799, 800, 801, 802, 803] (by decide +kernel) (by decide +kernel)
set_option maxRecDepth 20000 in
theorem gL_law_X5_undo : GoodIn wsL_law (wsV RL 52 RX5 yX5_undo wsX5_undo) := goodIn_app (goodIn_of _ (by decide +kernel)) ggL_law_X5_undo
set_option maxRecDepth 20000 in
theorem ggL_law_X6_undo : GoodIn wsL_law wsX6_undo := goodIn_r _ [458, 133, 70, 71, 764, 765, 766, 767, 768, 769, 770, 771, 772] (by decide +kernel) (by decide +kernel)
set_option maxRecDepth 20000 in
theorem gL_law_X6_undo : GoodIn wsL_law (wsV RL 55 RX6 yX6_undo wsX6_undo) := goodIn_app (goodIn_of _ (by decide +kernel)) ggL_law_X6_undo
set_option maxRecDepth 20000 in
theorem ggL_law_X5_append : GoodIn wsL_law wsX5_append := goodIn_r _ [462, 23, 463, 464, 465, 22, 466, 467, 65, 761, 762, 763, 789, 790, 791, 792, 793, 794] (by decide +kernel) (by decide +kernel)
set_option maxRecDepth 20000 in
theorem gL_law_X5_append : GoodIn wsL_law (wsV RL 56 RX5 yX5_append wsX5_append) := goodIn_app (goodIn_of _ (by decide +kernel)) ggL_law_X5_append
set_option maxRecDepth 20000 in
theorem ggL_law_X6_append : GoodIn wsL_law wsX6_append := goodIn_r _ [471, 472, 73, 158, 159, 5, 160, 764, 765, 766, 767, 768, 769, 770, 771, 772] (by decide +kernel) (by decide +kernel)
set_option maxRecDepth 20000 in
theorem gL_law_X6_append : GoodIn wsL_law (wsV RL 59 RX6 yX6_append wsX6_append) := goodIn_app (goodIn_of _ (by decide +kernel)) ggL_law_X6_append
set_option maxRecDepth 20000 in
theorem ggL_law_X5_clearText : GoodIn wsL_law wsX5_clearText := goodIn_r _ [476, 23, 477, 478, 479, 22, 480, 467, 761, 762, 763, 789, 790, 791, 792, 793, 794] (by decide +kernel) (by decide +kernel)
set_option maxRecDepth 20000 in
theorem gL_law_X5_clearText : GoodIn wsL_law (wsV RL 60 RX5 yX5_clearText wsX5_clearText) := goodIn_app (goodIn_of _ (by decide +kernel)) ggL_law_X5_clearText
set_option maxRecDepth 20000 in
theorem ggL_law_X6_clearText : GoodIn wsL_law wsX6_clearText := goodIn_r _ [484, 472, 764, 765, 766, 767, 768, 769, 770, 771, 772] (by decide +kernel) (by decide +kernel)
set_option maxRecDepth 20000 in
theorem gL_law_X6_clearText : GoodIn wsL_law (wsV RL 63 RX6 yX6_clearText wsX6_clearText) := goodIn_app (goodIn_of _ (by decide +kernel)) ggL_law_X6_clearText
set_option maxRecDepth 20000 in
theorem ggL_law_X5_run : GoodIn wsL_law wsX5_run := goodIn_r _ [488, 19, 15, 23, 78, 79, 80, 18, 81, 61, 82, 83, 84, 85, 14, 86, 87, 28, 88, 89, 90, 91, 29, 33, 34, 92, 35, 39, 93, 94, 40, 41, 42, 95, 96, 97, 32, 98, 99, 46, 100, 101, 102, 103, 38, 104, 50, 105, 51, 106, 52, 53, 54, 55, 489, 490, 491, 22, 492, 493, 494, 495, 496, 497, 467, 498, 499, 500, 501, 502, 503, 504, 505, 506, 507, 508, 509, 510, 511, 512, 65, 513, 514, 515, 516, 517, 518, 519, 520, 521, 522, 523, 524, 525, 526, 2, 527, 528, 452, 453, 454, 529, 530, 531, 532, 533, 534, 535, 536, 537, 538, 539, 540, 541, 542, 543, 544, 400, 401, 402, 403, 142, 143, 144, 145, 248, 249, 250, 251, 252, 253, 254, 255, 232, 233, 234, 235, 236, 237, 238, 239, 256, 257, 258, 259, 270, 271, 272, 273, 274, 275, 276, 277, 278, 279, 280, 281, 282, 283, 284, 285, 286, 287, 288, 289, 290, 291, 292, 293, 269, 213, 214, 215, 294, 295, 296, 297, 298, 299, 300, 301, 302, 303, 304, 305, 244, 245, 246, 247, 306, 307, 308, 309, 412, 413, 414, 415, 416, 417, 418, 419, 432, 433, 434, 435, 436, 437, 122, 438, 138, 139, 140, 141, 146, 147, 148, 149, 477, 478, 479, 480, 111, 112, 113, 114, 115, 116, 117, 118, 119, 120, 121, 123, 761, 762, 763, 786, 787, 788, 773, 774, 775, 776, 777, 778, 779, 780, 781, 782, 783, 784, 785, 795, 796, 797, 798, 799, 800, 801, 802, 803, 789, 790, 791, 792, 793, 794] (by decide +kernel) (by decide +kernel)
set_option maxRecDepth 20000 in
theorem gL_law_X5_run : GoodIn wsL_law (wsV RL 64 RX5 yX5_run wsX5_run) := goodIn_app (goodIn_of _ (by decide +kernel)) ggL_law_X5_run
set_option maxRecDepth 20000 in
theorem ggL_law_X6_run : GoodIn wsL_law wsX6_run := goodIn_r _ [548, 132, 549, 472, 550, 551, 552, 5, 553, 72, 70, 554, 555, 556, 557, 73, 558, 559, 560, 561, 562, 563, 564, 565, 566, 158, 159, 160, 567, 405, 406, 407, 154, 155, 156, 157, 330, 331, 332, 333, 334, 335, 336, 337, 322, 323, 324, 325, 338, 339, 340, 341, 326, 327, 328, 329, 342, 343, 344, 345, 128, 129, 130, 131, 133, 71, 356, 357, 358, 359, 360, 361, 362, 363, 364, 365, 366, 367, 368, 369, 370, 371, 372, 373, 374, 375, 568, 421, 422, 423, 424, 425, 426, 427, 569, 440, 441, 442, 570, 151, 152, 153, 161, 162, 163, 164, 571, 572, 573, 574, 764, 765, 766, 767, 768, 769, 770, 771, 772] (by decide +kernel) (by decide +kernel)
set_option maxRecDepth 20000 in
theorem gL_law_X6_run : GoodIn wsL_law (wsV RL 67 RX6 yX6_run wsX6_run) := goodIn_app (goodIn_of _ (by decide +kernel)) ggL_law_X6_run
set_option maxRecDepth 20000 in
theorem ggL_law_X5_count : GoodIn wsL_law wsX5_count := goodIn_r _ [578, 19, 23, 15, 579, 580, 581, 18, 582, 119, 583, 584, 585, 22, 586, 467, 587, 588, 589, 14, 590, 87, 33, 92, 93, 94, 39, 146, 147, 148, 149, 28, 286, 287, 288, 32, 289, 99, 244, 245, 246, 247, 35, 216, 217, 218, 38, 219, 50, 591, 592, 593, 594, 105, 595, 596, 597, 598, 599, 600, 601, 602, 54, 53, 761, 762, 763, 786, 787, 788, 789, 790, 791, 792, 793, 794, 773, 774, 775, 776, 777, 778, 779, 780, 781, 782, 783, 784, 785, 795, 796, 797, 798, 799, 800, 801, 802, 803] (by decide +kernel) (by decide +kernel)
set_option maxRecDepth 20000 in
theorem gL_law_X5_count : GoodIn wsL_law (wsV RL 68 RX5 yX5_count wsX5_count) := goodIn_app (goodIn_of _ (by decide +kernel)) ggL_law_X5_count
set_option maxRecDepth 20000 in
theorem ggL_law_X6_count : GoodIn wsL_law wsX6_count := goodIn_r _ [606, 70, 133, 472, 161, 162, 163, 5, 164, 326, 327, 328, 329, 607, 608, 609, 610, 611, 612, 613, 614, 764, 765, 766, 767, 768, 769, 770, 771, 772] (by decide +kernel) (by decide +kernel)
set_option maxRecDepth 20000 in
theorem gL_law_X6_count : GoodIn wsL_law (wsV RL 71 RX6 yX6_count wsX6_count) := goodIn_app (goodIn_of _ (by decide +kernel)) ggL_law_X6_count
set_option maxRecDepth 20000 in
theorem ggL_law_X5_elder : GoodIn wsL_law wsX5_elder := goodIn_r _ [618, 15, 619, 620, 621, 14, 622, 33, 34, 212, 213, 214, 32, 215, 99, 290, 291, 292, 293, 46, 269, 244, 245, 246, 247, 35, 761, 762, 763, 773, 774, 775, 776, 777, 778, 779, 780, 781, 782, 783, 784, 785, 795, 796] (by decide +kernel) (by decide +kernel)
set_option maxRecDepth 20000 in
theorem gL_law_X5_elder : GoodIn wsL_law (wsV RL 72 RX5 yX5_elder wsX5_elder) := goodIn_app (goodIn_of _ (by decide +kernel)) ggL_law_X5_elder
set_option maxRecDepth 20000 in
theorem ggL_law_X6_elder : GoodIn wsL_law wsX6_elder := goodIn_r _ [626, 70, 158, 159, 5, 160, 314, 315, 316, 317, 326, 327, 328, 329, 764, 765, 766, 767, 768, 769, 770, 771, 772] (by decide +kernel) (by decide +kernel)
set_option maxRecDepth 20000 in
theorem gL_law_X6_elder : GoodIn wsL_law (wsV RL 75 RX6 yX6_elder wsX6_elder) := goodIn_app (goodIn_of _ (by decide +kernel)) ggL_law_X6_elder
set_option maxRecDepth 20000 in
theorem ggL_law_X5_villager : GoodIn wsL_law wsX5_villager := goodIn_r _ [630, 15, 631, 632, 633, 14, 634, 28, 29, 33, 34, 39, 142, 143, 144, 145, 87, 635, 237, 238, 32, 239, 99, 46, 636, 637, 638, 38, 639, 105, 54, 761, 762, 763, 773, 774, 775, 776, 777, 778, 779, 780, 781, 782, 783, 784, 785, 795, 796, 797, 798, 799, 800, 801, 802, 803] (by decide +kernel) (by decide +kernel)
set_option maxRecDepth 20000 in
theorem gL_law_X5_villager : GoodIn wsL_law (wsV RL 76 RX5 yX5_villager wsX5_villager) := goodIn_app (goodIn_of _ (by decide +kernel)) ggL_law_X5_villager
set_option maxRecDepth 20000 in
theorem ggL_law_X6_villager : GoodIn wsL_law wsX6_villager := goodIn_r _ [643, 70, 154, 155, 156, 5, 157, 158, 159, 160, 322, 323, 324, 325, 338, 339, 340, 341, 326, 327, 328, 329, 644, 645, 646, 647, 764, 765, 766, 767, 768, 769, 770, 771, 772] (by decide +kernel) (by decide +kernel)
set_option maxRecDepth 20000 in
theorem gL_law_X6_villager : GoodIn wsL_law (wsV RL 79 RX6 yX6_villager wsX6_villager) := goodIn_app (goodIn_of _ (by decide +kernel)) ggL_law_X6_villager
set_option maxRecDepth 20000 in
theorem ggL_law_X5_entry : GoodIn wsL_law wsX5_entry := goodIn_r _ [651, 15, 652, 653, 654, 14, 655, 40, 41, 94, 42, 33, 34, 416, 417, 418, 419, 93, 656, 657, 658, 659, 87, 294, 295, 296, 297, 29, 142, 143, 144, 145, 282, 283, 284, 285, 286, 287, 288, 32, 289, 99, 290, 291, 292, 293, 46, 269, 213, 214, 215, 256, 257, 258, 259, 28, 761, 762, 763, 773, 774, 775, 776, 777, 778, 779, 780, 781, 782, 783, 784, 785, 795, 796] (by decide +kernel) (by decide +kernel)
set_option maxRecDepth 20000 in
theorem gL_law_X5_entry : GoodIn wsL_law (wsV RL 80 RX5 yX5_entry wsX5_entry) := goodIn_app (goodIn_of _ (by decide +kernel)) ggL_law_X5_entry
set_option maxRecDepth 20000 in
theorem ggL_law_X6_entry : GoodIn wsL_law wsX6_entry := goodIn_r _ [663, 70, 424, 425, 426, 5, 427, 158, 159, 160, 664, 665, 666, 667, 364, 365, 366, 367, 338, 339, 340, 341, 326, 327, 328, 329, 764, 765, 766, 767, 768, 769, 770, 771, 772] (by decide +kernel) (by decide +kernel)
set_option maxRecDepth 20000 in
theorem gL_law_X6_entry : GoodIn wsL_law (wsV RL 83 RX6 yX6_entry wsX6_entry) := goodIn_app (goodIn_of _ (by decide +kernel)) ggL_law_X6_entry
set_option maxRecDepth 20000 in
theorem ggL_law_X5_draw : GoodIn wsL_law wsX5_draw := goodIn_r _ [671, 15, 672, 673, 674, 14, 675, 39, 676, 677, 678, 38, 679, 105, 51, 52, 54, 55, 599, 600, 601, 602, 53, 761, 762, 763, 773, 774, 775, 776, 777, 778, 779, 780, 781, 782, 783, 784, 785, 797, 798, 799, 800, 801, 802, 803] (by decide +kernel) (by decide +kernel)
set_option maxRecDepth 20000 in
theorem gL_law_X5_draw : GoodIn wsL_law (wsV RL 84 RX5 yX5_draw wsX5_draw) := goodIn_app (goodIn_of _ (by decide +kernel)) ggL_law_X5_draw
set_option maxRecDepth 20000 in
theorem ggL_law_X6_draw : GoodIn wsL_law wsX6_draw := goodIn_r _ [683, 70, 158, 159, 5, 160, 611, 612, 613, 614, 764, 765, 766, 767, 768, 769, 770, 771, 772] (by decide +kernel) (by decide +kernel)
set_option maxRecDepth 20000 in
theorem gL_law_X6_draw : GoodIn wsL_law (wsV RL 87 RX6 yX6_draw wsX6_draw) := goodIn_app (goodIn_of _ (by decide +kernel)) ggL_law_X6_draw
set_option maxRecDepth 20000 in
theorem ggL_law_X5_missing : GoodIn wsL_law wsX5_missing := goodIn_r _ [687, 15, 688, 689, 690, 14, 691, 94, 416, 417, 418, 419, 93, 302, 303, 304, 305, 35, 244, 245, 246, 247, 692, 693, 694, 695, 34, 33, 696, 121, 122, 123, 697, 698, 699, 700, 436, 437, 438, 298, 299, 300, 32, 301, 99, 282, 283, 284, 285, 286, 287, 288, 289, 290, 291, 292, 293, 46, 269, 213, 214, 215, 294, 295, 296, 297, 29, 142, 143, 144, 145, 87, 256, 257, 258, 259, 28, 701, 702, 703, 704, 232, 233, 234, 235, 236, 237, 238, 239, 761, 762, 763, 773, 774, 775, 776, 777, 778, 779, 780, 781, 782, 783, 784, 785, 795, 796] (by decide +kernel) (by decide +kernel)
set_option maxRecDepth 20000 in
theorem gL_law_X5_missing : GoodIn wsL_law (wsV RL 88 RX5 yX5_missing wsX5_missing) := goodIn_app (goodIn_of _ (by decide +kernel)) ggL_law_X5_missing
set_option maxRecDepth 20000 in
theorem ggL_law_X6_missing : GoodIn wsL_law wsX6_missing := goodIn_r _ [708, 70, 424, 425, 426, 5, 427, 338, 339, 340, 341, 326, 327, 328, 329, 364, 365, 366, 367, 709, 710, 711, 764, 765, 766, 767, 768, 769, 770, 771, 772] (by decide +kernel) (by decide +kernel)
set_option maxRecDepth 20000 in
theorem gL_law_X6_missing : GoodIn wsL_law (wsV RL 91 RX6 yX6_missing wsX6_missing) := goodIn_app (goodIn_of _ (by decide +kernel)) ggL_law_X6_missing
set_option maxRecDepth 20000 in
theorem ggL_law_X5_reachable : GoodIn wsL_law wsX5_reachable := goodIn_r _ [715, 15, 716, 717, 718, 14, 719, 94, 93, 278, 279, 280, 281, 34, 33, 282, 283, 284, 285, 286, 287, 288, 32, 289, 99, 290, 291, 292, 293, 46, 269, 213, 214, 215, 294, 295, 296, 297, 29, 142, 143, 144, 145, 87, 256, 257, 258, 259, 28, 298, 299, 300, 301, 302, 303, 304, 305, 35, 244, 245, 246, 247, 761, 762, 763, 773, 774, 775, 776, 777, 778, 779, 780, 781, 782, 783, 784, 785, 795, 796] (by decide +kernel) (by decide +kernel)
set_option maxRecDepth 20000 in
theorem gL_law_X5_reachable : GoodIn wsL_law (wsV RL 92 RX5 yX5_reachable wsX5_reachable) := goodIn_app (goodIn_of _ (by decide +kernel)) ggL_law_X5_reachable
set_option maxRecDepth 20000 in
theorem ggL_law_X6_reachable : GoodIn wsL_law wsX6_reachable := goodIn_r _ [723, 70, 550, 551, 552, 5, 553, 72, 334, 335, 336, 337, 322, 323, 324, 325, 338, 339, 340, 341, 326, 327, 328, 329, 342, 343, 344, 345, 360, 361, 362, 363, 364, 365, 366, 367, 368, 369, 370, 371, 372, 373, 374, 375, 571, 572, 573, 574, 764, 765, 766, 767, 768, 769, 770, 771, 772] (by decide +kernel) (by decide +kernel)
set_option maxRecDepth 20000 in
theorem gL_law_X6_reachable : GoodIn wsL_law (wsV RL 95 RX6 yX6_reachable wsX6_reachable) := goodIn_app (goodIn_of _ (by decide +kernel)) ggL_law_X6_reachable
set_option maxRecDepth 20000 in
theorem ggL_law_X5_nextDrawn : GoodIn wsL_law wsX5_nextDrawn := goodIn_r _ [727, 15, 728, 729, 730, 14, 731, 33, 39, 212, 213, 214, 32, 215, 99, 244, 245, 246, 247, 35, 216, 217, 218, 38, 219, 50, 220, 221, 222, 223, 87, 224, 225, 226, 227, 228, 229, 230, 231, 232, 233, 234, 235, 236, 237, 238, 239, 46, 240, 241, 242, 243, 761, 762, 763, 773, 774, 775, 776, 777, 778, 779, 780, 781, 782, 783, 784, 785, 795, 796, 797, 798, 799, 800, 801, 802, 803] (by decide +kernel) (by decide +kernel)
set_option maxRecDepth 20000 in
theorem gL_law_X5_nextDrawn : GoodIn wsL_law (wsV RL 96 RX5 yX5_nextDrawn wsX5_nextDrawn) := goodIn_app (goodIn_of _ (by decide +kernel)) ggL_law_X5_nextDrawn
set_option maxRecDepth 20000 in
theorem ggL_law_X6_nextDrawn : GoodIn wsL_law wsX6_nextDrawn := goodIn_r _ [735, 70, 314, 315, 316, 5, 317, 326, 327, 328, 329, 318, 319, 320, 321, 322, 323, 324, 325, 346, 347, 348, 349, 350, 351, 352, 353, 354, 355, 764, 765, 766, 767, 768, 769, 770, 771, 772] (by decide +kernel) (by decide +kernel)
set_option maxRecDepth 20000 in
theorem gL_law_X6_nextDrawn : GoodIn wsL_law (wsV RL 99 RX6 yX6_nextDrawn wsX6_nextDrawn) := goodIn_app (goodIn_of _ (by decide +kernel)) ggL_law_X6_nextDrawn
set_option maxRecDepth 20000 in
theorem ggL_law_X5_spare : GoodIn wsL_law wsX5_spare := goodIn_r _ [739, 15, 740, 741, 742, 14, 743, 33, 87, 93, 173, 174, 175, 32, 176, 99, 244, 245, 246, 247, 35, 692, 693, 694, 695, 34, 696, 121, 122, 123, 697, 698, 699, 700, 436, 437, 438, 298, 299, 300, 301, 282, 283, 284, 285, 286, 287, 288, 289, 290, 291, 292, 293, 46, 269, 213, 214, 215, 294, 295, 296, 297, 29, 142, 143, 144, 145, 256, 257, 258, 259, 28, 701, 702, 703, 704, 232, 233, 234, 235, 236, 237, 238, 239, 761, 762, 763, 773, 774, 775, 776, 777, 778, 779, 780, 781, 782, 783, 784, 785, 795, 796] (by decide +kernel) (by decide +kernel)
set_option maxRecDepth 20000 in
theorem gL_law_X5_spare : GoodIn wsL_law (wsV RL 100 RX5 yX5_spare wsX5_spare) := goodIn_app (goodIn_of _ (by decide +kernel)) ggL_law_X5_spare
set_option maxRecDepth 20000 in
theorem ggL_law_X6_spare : GoodIn wsL_law wsX6_spare := goodIn_r _ [747, 70, 326, 327, 328, 5, 329, 709, 710, 711, 764, 765, 766, 767, 768, 769, 770, 771, 772] (by decide +kernel) (by decide +kernel)
set_option maxRecDepth 20000 in
theorem gL_law_X6_spare : GoodIn wsL_law (wsV RL 103 RX6 yX6_spare wsX6_spare) := goodIn_app (goodIn_of _ (by decide +kernel)) ggL_law_X6_spare
set_option maxRecDepth 20000 in
theorem ggL_law_X5_lotFor : GoodIn wsL_law wsX5_lotFor := goodIn_r _ [751, 15, 752, 753, 754, 14, 755, 33, 194, 142, 143, 144, 145, 87, 212, 213, 214, 32, 215, 99, 244, 245, 246, 247, 35, 224, 225, 226, 227, 228, 229, 230, 231, 232, 233, 234, 235, 236, 237, 238, 239, 46, 240, 241, 38, 242, 243, 761, 762, 763, 773, 774, 775, 776, 777, 778, 779, 780, 781, 782, 783, 784, 785, 795, 796] (by decide +kernel) (by decide +kernel)
set_option maxRecDepth 20000 in
theorem gL_law_X5_lotFor : GoodIn wsL_law (wsV RL 104 RX5 yX5_lotFor wsX5_lotFor) := goodIn_app (goodIn_of _ (by decide +kernel)) ggL_law_X5_lotFor
set_option maxRecDepth 20000 in
theorem ggL_law_X6_lotFor : GoodIn wsL_law wsX6_lotFor := goodIn_r _ [759, 760, 154, 155, 156, 5, 157, 70, 314, 315, 316, 317, 326, 327, 328, 329, 318, 319, 320, 321, 322, 323, 324, 325, 346, 347, 348, 349, 350, 351, 352, 353, 354, 355, 764, 765, 766, 767, 768, 769, 770, 771, 772] (by decide +kernel) (by decide +kernel)
set_option maxRecDepth 20000 in
theorem gL_law_X6_lotFor : GoodIn wsL_law (wsV RL 107 RX6 yX6_lotFor wsX6_lotFor) := goodIn_app (goodIn_of _ (by decide +kernel)) ggL_law_X6_lotFor
