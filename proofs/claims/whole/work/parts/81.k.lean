set_option maxRecDepth 20000 in
theorem gL_law_X8_robot : GoodIn wsL_law (wsV RL 92 RX8 yX8_robot wsX8_robot) := goodIn_app (goodIn_of _ (by decide +kernel)) ggL_law_X8_robot
