set_option maxRecDepth 20000 in
theorem ggL_law_X7_stands : GoodIn wsL_law wsX7_stands := goodIn_r _ [385, 28, 386, 387, 388, 27, 389, 390, 391, 372, 373, 374, 89, 375, 376, 34, 377, 40, 41, 42, 207, 208, 209, 206, 72, 73, 642, 643, 644, 645, 646, 647, 648, 700, 701] (by decide +kernel) (by decide +kernel)
set_option maxRecDepth 20000 in
theorem gL_law_X7_stands : GoodIn wsL_law (wsV RL 40 RX7 yX7_stands wsX7_stands) := goodIn_app (goodIn_of _ (by decide +kernel)) ggL_law_X7_stands
set_option maxRecDepth 20000 in
theorem ggL_law_X8_stands : GoodIn wsL_law wsX8_stands := goodIn_r _ [395, 97, 649, 650, 651, 652, 653, 654, 655, 656, 657, 658, 659, 660, 661, 662, 663, 664, 665, 666, 667, 668, 669, 670, 671] (by decide +kernel) (by decide +kernel)
set_option maxRecDepth 20000 in
theorem gL_law_X8_stands : GoodIn wsL_law (wsV RL 43 RX8 yX8_stands wsX8_stands) := goodIn_app (goodIn_of _ (by decide +kernel)) ggL_law_X8_stands
set_option maxRecDepth 20000 in
theorem ggL_law_X7_shows : GoodIn wsL_law wsX7_shows := goodIn_r _ [399, 28, 291, 292, 293, 27, 294, 89, 295, 41, 34, 42, 296, 297, 298, 299, 300, 208, 209, 301, 44, 45, 46, 47, 48, 49, 400, 401, 402, 403, 404, 181, 182, 405, 136, 122, 137, 138, 139, 140, 141, 142, 143, 144, 406, 407, 408, 409, 410, 177, 178, 179, 150, 151, 152, 411, 412, 413, 414, 415, 351, 352, 375, 376, 377, 40, 207, 206, 72, 73, 642, 643, 644, 645, 646, 647, 648, 700, 701] (by decide +kernel) (by decide +kernel)
set_option maxRecDepth 20000 in
theorem gL_law_X7_shows : GoodIn wsL_law (wsV RL 44 RX7 yX7_shows wsX7_shows) := goodIn_app (goodIn_of _ (by decide +kernel)) ggL_law_X7_shows
set_option maxRecDepth 20000 in
theorem ggL_law_X8_shows : GoodIn wsL_law wsX8_shows := goodIn_r _ [419, 310, 311, 312, 5, 313, 96, 420, 421, 422, 423, 424, 425, 426, 427, 428, 429, 430, 431, 97, 432, 433, 434, 435, 356, 357, 358, 436, 437, 438, 439, 649, 650, 651, 652, 653, 654, 655, 656, 657, 658, 659, 660, 661, 662, 663, 664, 665, 666, 667, 668, 669, 670, 671] (by decide +kernel) (by decide +kernel)
set_option maxRecDepth 20000 in
theorem gL_law_X8_shows : GoodIn wsL_law (wsV RL 47 RX8 yX8_shows wsX8_shows) := goodIn_app (goodIn_of _ (by decide +kernel)) ggL_law_X8_shows
set_option maxRecDepth 20000 in
theorem ggL_law_X7_worth : GoodIn wsL_law wsX7_worth := goodIn_r _ [443, 31, 120, 121, 122, 123, 124, 125, 126, 2, 127, 444, 445, 446, 447, 136, 137, 138, 139, 140, 141, 142, 143, 144, 448, 177, 178, 179, 150, 151, 152, 449, 174, 175, 450, 44, 45, 46, 47, 48, 49, 642, 643, 644, 645, 646, 647, 648] (by decide +kernel) (by decide +kernel)
set_option maxRecDepth 20000 in
theorem gL_law_X7_worth : GoodIn wsL_law (wsV RL 48 RX7 yX7_worth wsX7_worth) := goodIn_app (goodIn_of _ (by decide +kernel)) ggL_law_X7_worth
set_option maxRecDepth 20000 in
theorem ggL_law_X8_worth : GoodIn wsL_law wsX8_worth := goodIn_r _ [454, 115, 228, 229, 5, 230, 231, 232, 233, 234, 235, 455, 456, 457, 256, 257, 258, 356, 357, 358, 649, 650, 651, 652, 653, 654, 655, 656, 657, 658, 659, 660, 661, 662, 663, 664, 665, 666, 667, 668, 669, 670, 671] (by decide +kernel) (by decide +kernel)
set_option maxRecDepth 20000 in
theorem gL_law_X8_worth : GoodIn wsL_law (wsV RL 51 RX8 yX8_worth wsX8_worth) := goodIn_app (goodIn_of _ (by decide +kernel)) ggL_law_X8_worth
