set_option maxRecDepth 20000 in
theorem ggL_law_X7_layout : GoodIn wsL_law wsX7_layout := goodIn_r _ [265, 20, 29, 31, 28, 120, 121, 122, 123, 124, 125, 126, 2, 127, 266, 267, 268, 19, 269, 270, 78, 271, 272, 273, 274, 275, 136, 137, 138, 139, 140, 141, 142, 143, 144, 276, 277, 278, 279, 79, 280, 222, 34, 223, 281, 174, 175, 282, 181, 182, 283, 72, 73, 284, 201, 202, 285, 44, 45, 46, 47, 48, 49, 286, 204, 205, 206, 207, 208, 209, 287, 288, 289, 290, 291, 292, 293, 27, 294, 89, 295, 41, 42, 296, 297, 298, 299, 300, 301, 642, 643, 644, 645, 646, 647, 648, 685, 686, 687, 700, 701] (by decide +kernel) (by decide +kernel)
set_option maxRecDepth 20000 in
theorem gL_law_X7_layout : GoodIn wsL_law (wsV RL 25 RX7 yX7_layout wsX7_layout) := goodIn_app (goodIn_of _ (by decide +kernel)) ggL_law_X7_layout
set_option maxRecDepth 20000 in
theorem ggL_law_X8_layout : GoodIn wsL_law wsX8_layout := goodIn_r _ [305, 115, 228, 229, 5, 230, 231, 232, 233, 234, 235, 306, 307, 308, 309, 95, 96, 97, 236, 237, 238, 239, 240, 241, 242, 243, 244, 245, 246, 247, 248, 249, 250, 251, 252, 253, 254, 255, 256, 257, 258, 259, 260, 261, 310, 311, 312, 313, 649, 650, 651, 652, 653, 654, 655, 656, 657, 658, 659, 660, 661, 662, 663, 664, 665, 666, 667, 668, 669, 670, 671] (by decide +kernel) (by decide +kernel)
set_option maxRecDepth 20000 in
theorem gL_law_X8_layout : GoodIn wsL_law (wsV RL 29 RX8 yX8_layout wsX8_layout) := goodIn_app (goodIn_of _ (by decide +kernel)) ggL_law_X8_layout
set_option maxRecDepth 20000 in
theorem ggL_law_X7_best : GoodIn wsL_law wsX7_best := goodIn_r _ [317, 16, 20, 29, 31, 120, 121, 122, 123, 318, 319, 2, 320, 124, 125, 126, 127, 321, 322, 323, 15, 324, 132, 133, 134, 170, 149, 150, 151, 152, 188, 135, 136, 137, 138, 139, 140, 141, 142, 143, 144, 145, 146, 147, 148, 153, 62, 63, 154, 155, 156, 61, 157, 158, 70, 69, 67, 159, 160, 161, 162, 163, 164, 165, 166, 167, 168, 169, 171, 172, 54, 55, 56, 173, 174, 175, 176, 177, 178, 179, 180, 181, 34, 182, 183, 44, 45, 46, 47, 48, 49, 184, 185, 186, 187, 58, 189, 190, 191, 192, 193, 194, 195, 71, 72, 73, 196, 197, 198, 199, 200, 201, 202, 203, 204, 205, 206, 207, 208, 209, 210, 211, 212, 213, 214, 215, 216, 217, 218, 219, 220, 325, 326, 327, 328, 221, 222, 223, 329, 330, 331, 332, 333, 334, 335, 336, 266, 267, 268, 19, 269, 270, 78, 271, 272, 273, 274, 275, 276, 277, 278, 279, 79, 280, 281, 282, 283, 284, 285, 286, 287, 288, 289, 290, 28, 642, 643, 644, 645, 646, 647, 648, 672, 673, 674, 675, 676, 677, 678, 679, 680, 681, 682, 683, 684, 702, 703, 704, 705, 685, 686, 687, 700, 701] (by decide +kernel) (by decide +kernel)
set_option maxRecDepth 20000 in
theorem gL_law_X7_best : GoodIn wsL_law (wsV RL 30 RX7 yX7_best wsX7_best) := goodIn_app (goodIn_of _ (by decide +kernel)) ggL_law_X7_best
set_option maxRecDepth 20000 in
theorem ggL_law_X8_best : GoodIn wsL_law wsX8_best := goodIn_r _ [340, 115, 228, 229, 5, 230, 231, 232, 233, 234, 235, 341, 342, 343, 344, 98, 345, 99, 100, 346, 347, 348, 349, 240, 350, 351, 151, 352, 250, 251, 252, 253, 254, 255, 241, 242, 243, 244, 245, 246, 247, 248, 249, 353, 354, 355, 356, 357, 358, 256, 257, 258, 259, 260, 261, 359, 360, 361, 362, 363, 364, 365, 366, 306, 307, 308, 309, 95, 96, 97, 236, 237, 238, 239, 649, 650, 651, 652, 653, 654, 655, 656, 657, 658, 659, 660, 661, 662, 663, 664, 665, 666, 667, 668, 669, 670, 671] (by decide +kernel) (by decide +kernel)
set_option maxRecDepth 20000 in
theorem gL_law_X8_best : GoodIn wsL_law (wsV RL 34 RX8 yX8_best wsX8_best) := goodIn_app (goodIn_of _ (by decide +kernel)) ggL_law_X8_best
set_option maxRecDepth 20000 in
theorem ggL_law_X7_place : GoodIn wsL_law wsX7_place := goodIn_r _ [370, 28, 371, 372, 373, 27, 374, 89, 375, 376, 34, 377, 40, 41, 42, 207, 208, 209, 206, 72, 73, 642, 643, 644, 645, 646, 647, 648, 700, 701] (by decide +kernel) (by decide +kernel)
set_option maxRecDepth 20000 in
theorem gL_law_X7_place : GoodIn wsL_law (wsV RL 35 RX7 yX7_place wsX7_place) := goodIn_app (goodIn_of _ (by decide +kernel)) ggL_law_X7_place
set_option maxRecDepth 20000 in
theorem ggL_law_X8_place : GoodIn wsL_law wsX8_place := goodIn_r _ [381, 96, 649, 650, 651, 652, 653, 654, 655, 656, 657, 658, 659, 660, 661, 662, 663, 664, 665, 666, 667, 668, 669, 670, 671] (by decide +kernel) (by decide +kernel)
set_option maxRecDepth 20000 in
theorem gL_law_X8_place : GoodIn wsL_law (wsV RL 39 RX8 yX8_place wsX8_place) := goodIn_app (goodIn_of _ (by decide +kernel)) ggL_law_X8_place
