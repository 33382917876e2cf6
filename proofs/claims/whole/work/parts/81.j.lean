set_option maxRecDepth 20000 in
theorem rbG_1 : GoodIn wsL_law (.code yX8_robot cX8_robot 6 (some .int) :: wsX8_robot_r1) := goodIn_r _ [641, 507, 508, 115, 103, 509, 514, 102, 232, 233, 234, 5, 235, 341, 342, 343, 344, 98, 345, 99, 100, 346, 347, 348, 349] (by decide +kernel) (by decide +kernel)
set_option maxRecDepth 20000 in
theorem rbG_2 : GoodIn wsL_law wsX8_robot_r2 := goodIn_r _ [240, 350, 351, 151, 352, 250, 251, 252, 253, 254, 255, 241, 242, 243, 244, 245, 246, 247, 248, 249, 353, 354, 355, 356] (by decide +kernel) (by decide +kernel)
set_option maxRecDepth 20000 in
theorem rbG_3 : GoodIn wsL_law wsX8_robot_r3 := goodIn_r _ [357, 358, 256, 257, 258, 259, 260, 261, 359, 360, 361, 362, 363, 364, 365, 366, 598, 599, 600, 601, 101, 602, 603, 604] (by decide +kernel) (by decide +kernel)
set_option maxRecDepth 20000 in
theorem rbG_4 : GoodIn wsL_law wsX8_robot_r4 := goodIn_r _ [605, 105, 96, 106, 97, 306, 307, 308, 309, 95, 236, 237, 238, 239, 432, 433, 434, 435, 606, 607, 608, 609, 569, 570] (by decide +kernel) (by decide +kernel)
set_option maxRecDepth 20000 in
theorem rbG_5 : GoodIn wsL_law wsX8_robot_r5 := goodIn_r _ [571, 610, 611, 612, 613, 512, 510, 626, 627, 628, 629, 505, 104, 513, 506, 511] (by decide +kernel) (by decide +kernel)
set_option maxRecDepth 20000 in
theorem rbG_t : GoodIn wsL_law wsX80 := goodIn_r _ [649, 650, 651, 652, 653, 654, 655, 656, 657, 658, 659, 660, 661, 662, 663, 664, 665, 666, 667, 668, 669, 670, 671] (by decide +kernel) (by decide +kernel)
theorem ggL_law_X8_robot : GoodIn wsL_law wsX8_robot := by
  unfold wsX8_robot
  exact goodIn_ca (goodIn_ca rbG_1 (goodIn_app rbG_2 (goodIn_app rbG_3 (goodIn_app rbG_4 rbG_5)))) rbG_t
