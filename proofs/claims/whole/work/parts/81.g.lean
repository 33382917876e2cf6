set_option maxRecDepth 20000 in
theorem ggL_law_X7_table : GoodIn wsL_law wsX7_table := goodIn_r _ [539, 24, 31, 519, 520, 521, 23, 522, 476, 124, 125, 126, 2, 127, 642, 643, 644, 645, 646, 647, 648, 688, 689, 690, 691, 692, 693, 694, 695, 696, 697, 698, 699] (by decide +kernel) (by decide +kernel)
set_option maxRecDepth 20000 in
theorem gL_law_X7_table : GoodIn wsL_law (wsV RL 67 RX7 yX7_table wsX7_table) := goodIn_app (goodIn_of _ (by decide +kernel)) ggL_law_X7_table
set_option maxRecDepth 20000 in
theorem ggL_law_X8_table : GoodIn wsL_law wsX8_table := goodIn_r _ [543, 507, 115, 514, 232, 233, 234, 5, 235, 649, 650, 651, 652, 653, 654, 655, 656, 657, 658, 659, 660, 661, 662, 663, 664, 665, 666, 667, 668, 669, 670, 671] (by decide +kernel) (by decide +kernel)
set_option maxRecDepth 20000 in
theorem gL_law_X8_table : GoodIn wsL_law (wsV RL 71 RX8 yX8_table wsX8_table) := goodIn_app (goodIn_of _ (by decide +kernel)) ggL_law_X8_table
set_option maxRecDepth 20000 in
theorem ggL_law_X7_tell : GoodIn wsL_law wsX7_tell := goodIn_r _ [547, 24, 31, 124, 125, 126, 2, 127, 519, 520, 521, 23, 522, 476, 548, 549, 550, 551, 479, 477, 483, 484, 480, 481, 642, 643, 644, 645, 646, 647, 648, 688, 689, 690, 691, 692, 693, 694, 695, 696, 697, 698, 699] (by decide +kernel) (by decide +kernel)
set_option maxRecDepth 20000 in
theorem gL_law_X7_tell : GoodIn wsL_law (wsV RL 72 RX7 yX7_tell wsX7_tell) := goodIn_app (goodIn_of _ (by decide +kernel)) ggL_law_X7_tell
set_option maxRecDepth 20000 in
theorem ggL_law_X8_tell : GoodIn wsL_law wsX8_tell := goodIn_r _ [555, 507, 115, 509, 505, 508, 510, 511, 512, 506, 232, 233, 234, 5, 235, 649, 650, 651, 652, 653, 654, 655, 656, 657, 658, 659, 660, 661, 662, 663, 664, 665, 666, 667, 668, 669, 670, 671] (by decide +kernel) (by decide +kernel)
set_option maxRecDepth 20000 in
theorem gL_law_X8_tell : GoodIn wsL_law (wsV RL 75 RX8 yX8_tell wsX8_tell) := goodIn_app (goodIn_of _ (by decide +kernel)) ggL_law_X8_tell
set_option maxRecDepth 20000 in
theorem ggL_law_X7_player : GoodIn wsL_law wsX7_player := goodIn_r _ [559, 24, 31, 124, 125, 126, 2, 127, 519, 520, 521, 23, 522, 476, 523, 524, 525, 526, 560, 561, 562, 563, 84, 531, 527, 528, 529, 530, 83, 564, 139, 140, 141, 142, 143, 144, 444, 445, 122, 446, 447, 136, 137, 138, 448, 177, 178, 179, 150, 151, 152, 449, 174, 175, 450, 44, 45, 46, 47, 48, 49, 642, 643, 644, 645, 646, 647, 648, 688, 689, 690, 691, 692, 693, 694, 695, 696, 697, 698, 699] (by decide +kernel) (by decide +kernel)
set_option maxRecDepth 20000 in
theorem gL_law_X7_player : GoodIn wsL_law (wsV RL 76 RX7 yX7_player wsX7_player) := goodIn_app (goodIn_of _ (by decide +kernel)) ggL_law_X7_player
set_option maxRecDepth 20000 in
theorem ggL_law_X8_player : GoodIn wsL_law wsX8_player := goodIn_r _ [568, 507, 506, 115, 103, 102, 232, 233, 234, 5, 235, 569, 570, 571, 256, 257, 258, 455, 456, 457, 356, 357, 358, 649, 650, 651, 652, 653, 654, 655, 656, 657, 658, 659, 660, 661, 662, 663, 664, 665, 666, 667, 668, 669, 670, 671] (by decide +kernel) (by decide +kernel)
set_option maxRecDepth 20000 in
theorem gL_law_X8_player : GoodIn wsL_law (wsV RL 80 RX8 yX8_player wsX8_player) := goodIn_app (goodIn_of _ (by decide +kernel)) ggL_law_X8_player
