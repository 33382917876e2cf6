set_option maxRecDepth 20000 in
theorem ggL_law_X7_opening : GoodIn wsL_law wsX7_opening := goodIn_r _ [461, 31, 30, 642, 643, 644, 645, 646, 647, 648] (by decide +kernel) (by decide +kernel)
set_option maxRecDepth 20000 in
theorem gL_law_X7_opening : GoodIn wsL_law (wsV RL 52 RX7 yX7_opening wsX7_opening) := goodIn_app (goodIn_of _ (by decide +kernel)) ggL_law_X7_opening
set_option maxRecDepth 20000 in
theorem ggL_law_X8_opening : GoodIn wsL_law wsX8_opening := goodIn_r _ [465, 115, 101, 649, 650, 651, 652, 653, 654, 655, 656, 657, 658, 659, 660, 661, 662, 663, 664, 665, 666, 667, 668, 669, 670, 671] (by decide +kernel) (by decide +kernel)
set_option maxRecDepth 20000 in
theorem gL_law_X8_opening : GoodIn wsL_law (wsV RL 56 RX8 yX8_opening wsX8_opening) := goodIn_app (goodIn_of _ (by decide +kernel)) ggL_law_X8_opening
set_option maxRecDepth 20000 in
theorem ggL_law_X7_deal : GoodIn wsL_law wsX7_deal := goodIn_r _ [469, 470, 31, 24, 471, 472, 473, 23, 474, 475, 150, 151, 152, 476, 477, 84, 83, 478, 479, 480, 481, 482, 483, 484, 485, 486, 487, 488, 85, 489, 490, 491, 492, 493, 494, 495, 496, 497, 642, 643, 644, 645, 646, 647, 648, 688, 689, 690, 691, 692, 693, 694, 695, 696, 697, 698, 699] (by decide +kernel) (by decide +kernel)
set_option maxRecDepth 20000 in
theorem gL_law_X7_deal : GoodIn wsL_law (wsV RL 57 RX7 yX7_deal wsX7_deal) := goodIn_app (goodIn_of _ (by decide +kernel)) ggL_law_X7_deal
set_option maxRecDepth 20000 in
theorem ggL_law_X8_deal : GoodIn wsL_law wsX8_deal := goodIn_r _ [501, 502, 115, 104, 503, 504, 505, 102, 103, 506, 507, 508, 509, 510, 511, 512, 513, 514, 649, 650, 651, 652, 653, 654, 655, 656, 657, 658, 659, 660, 661, 662, 663, 664, 665, 666, 667, 668, 669, 670, 671] (by decide +kernel) (by decide +kernel)
set_option maxRecDepth 20000 in
theorem gL_law_X8_deal : GoodIn wsL_law (wsV RL 61 RX8 yX8_deal wsX8_deal) := goodIn_app (goodIn_of _ (by decide +kernel)) ggL_law_X8_deal
set_option maxRecDepth 20000 in
theorem ggL_law_X7_hand : GoodIn wsL_law wsX7_hand := goodIn_r _ [518, 24, 31, 124, 125, 126, 2, 127, 519, 520, 521, 23, 522, 476, 523, 524, 525, 526, 527, 528, 529, 530, 83, 531, 642, 643, 644, 645, 646, 647, 648, 688, 689, 690, 691, 692, 693, 694, 695, 696, 697, 698, 699] (by decide +kernel) (by decide +kernel)
set_option maxRecDepth 20000 in
theorem gL_law_X7_hand : GoodIn wsL_law (wsV RL 62 RX7 yX7_hand wsX7_hand) := goodIn_app (goodIn_of _ (by decide +kernel)) ggL_law_X7_hand
set_option maxRecDepth 20000 in
theorem ggL_law_X8_hand : GoodIn wsL_law wsX8_hand := goodIn_r _ [535, 507, 506, 115, 102, 232, 233, 234, 5, 235, 649, 650, 651, 652, 653, 654, 655, 656, 657, 658, 659, 660, 661, 662, 663, 664, 665, 666, 667, 668, 669, 670, 671] (by decide +kernel) (by decide +kernel)
set_option maxRecDepth 20000 in
theorem gL_law_X8_hand : GoodIn wsL_law (wsV RL 66 RX8 yX8_hand wsX8_hand) := goodIn_app (goodIn_of _ (by decide +kernel)) ggL_law_X8_hand
