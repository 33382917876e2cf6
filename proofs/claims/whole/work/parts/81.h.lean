set_option maxRecDepth 20000 in
theorem ggL_law_X7_lay : GoodIn wsL_law wsX7_lay := goodIn_r _ [575, 24, 576, 31, 120, 121, 122, 123, 124, 125, 126, 2, 127, 577, 578, 579, 580, 519, 520, 521, 23, 522, 476, 527, 528, 529, 530, 83, 531, 524, 525, 526, 581, 582, 583, 584, 20, 29, 30, 560, 561, 562, 563, 84, 266, 267, 268, 19, 269, 270, 78, 271, 272, 273, 274, 275, 136, 137, 138, 139, 140, 141, 142, 143, 144, 276, 277, 278, 279, 79, 280, 222, 34, 223, 281, 174, 175, 282, 181, 182, 283, 72, 73, 284, 201, 202, 285, 44, 45, 46, 47, 48, 49, 286, 204, 205, 206, 207, 208, 209, 406, 407, 408, 27, 409, 89, 410, 177, 178, 179, 150, 151, 152, 404, 301, 585, 586, 587, 588, 589, 590, 591, 592, 479, 593, 478, 481, 483, 484, 287, 288, 289, 290, 28, 564, 642, 643, 644, 645, 646, 647, 648, 688, 689, 690, 691, 692, 693, 694, 695, 696, 697, 698, 699, 685, 686, 687, 700, 701] (by decide +kernel) (by decide +kernel)
set_option maxRecDepth 20000 in
theorem gL_law_X7_lay : GoodIn wsL_law (wsV RL 81 RX7 yX7_lay wsX7_lay) := goodIn_app (goodIn_of _ (by decide +kernel)) ggL_law_X7_lay
set_option maxRecDepth 20000 in
theorem ggL_law_X8_lay : GoodIn wsL_law wsX8_lay := goodIn_r _ [597, 507, 508, 102, 509, 345, 115, 514, 228, 229, 5, 230, 231, 232, 233, 234, 235, 598, 599, 600, 601, 103, 101, 602, 603, 604, 605, 105, 96, 106, 97, 306, 307, 308, 309, 95, 236, 237, 238, 239, 240, 241, 242, 243, 244, 245, 246, 247, 248, 249, 250, 251, 252, 253, 254, 255, 256, 257, 258, 259, 260, 261, 432, 433, 434, 435, 356, 357, 358, 606, 607, 608, 609, 610, 611, 612, 613, 512, 510, 569, 570, 571, 649, 650, 651, 652, 653, 654, 655, 656, 657, 658, 659, 660, 661, 662, 663, 664, 665, 666, 667, 668, 669, 670, 671] (by decide +kernel) (by decide +kernel)
set_option maxRecDepth 20000 in
theorem gL_law_X8_lay : GoodIn wsL_law (wsV RL 84 RX8 yX8_lay wsX8_lay) := goodIn_app (goodIn_of _ (by decide +kernel)) ggL_law_X8_lay
set_option maxRecDepth 20000 in
theorem ggL_law_X7_end : GoodIn wsL_law wsX7_end := goodIn_r _ [617, 31, 24, 577, 578, 579, 2, 580, 519, 520, 521, 23, 522, 476, 124, 125, 126, 127, 618, 619, 620, 621, 481, 479, 83, 482, 483, 480, 491, 492, 493, 494, 477, 85, 531, 524, 525, 526, 495, 496, 497, 642, 643, 644, 645, 646, 647, 648, 688, 689, 690, 691, 692, 693, 694, 695, 696, 697, 698, 699] (by decide +kernel) (by decide +kernel)
set_option maxRecDepth 20000 in
theorem gL_law_X7_end : GoodIn wsL_law (wsV RL 85 RX7 yX7_end wsX7_end) := goodIn_app (goodIn_of _ (by decide +kernel)) ggL_law_X7_end
set_option maxRecDepth 20000 in
theorem ggL_law_X8_end : GoodIn wsL_law wsX8_end := goodIn_r _ [625, 507, 508, 115, 232, 233, 234, 5, 235, 626, 627, 628, 629, 512, 505, 104, 102, 509, 513, 506, 511, 649, 650, 651, 652, 653, 654, 655, 656, 657, 658, 659, 660, 661, 662, 663, 664, 665, 666, 667, 668, 669, 670, 671] (by decide +kernel) (by decide +kernel)
set_option maxRecDepth 20000 in
theorem gL_law_X8_end : GoodIn wsL_law (wsV RL 88 RX8 yX8_end wsX8_end) := goodIn_app (goodIn_of _ (by decide +kernel)) ggL_law_X8_end
