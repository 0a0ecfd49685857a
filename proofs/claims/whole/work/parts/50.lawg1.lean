set_option maxRecDepth 20000 in
theorem ggL_law_X8_node : GoodIn wsL_law wsX8_node := goodIn_r _ [279, 28, 16, 280, 281, 282, 283, 2, 284, 285, 286, 287, 27, 288, 74, 289, 214, 215, 290, 198, 199, 43, 200, 67, 503, 504, 505, 506, 507, 508, 509, 510, 511, 533, 534, 535, 536, 541, 542, 549] (by decide +kernel) (by decide +kernel)
set_option maxRecDepth 20000 in
theorem gL_law_X8_node : GoodIn wsL_law (wsV RL 25 RX8 yX8_node wsX8_node) := goodIn_app (goodIn_of _ (by decide +kernel)) ggL_law_X8_node
set_option maxRecDepth 20000 in
theorem ggL_law_X9_node : GoodIn wsL_law wsX9_node := goodIn_r _ [294, 103, 104, 264, 265, 266, 5, 267, 102, 137, 233, 234, 235, 236, 268, 269, 270, 512, 513, 514, 515, 516, 517, 518, 519, 520, 521, 522, 523, 524, 525, 526, 527, 528, 529, 530, 531, 532] (by decide +kernel) (by decide +kernel)
set_option maxRecDepth 20000 in
theorem gL_law_X9_node : GoodIn wsL_law (wsV RL 29 RX9 yX9_node wsX9_node) := goodIn_app (goodIn_of _ (by decide +kernel)) ggL_law_X9_node
set_option maxRecDepth 20000 in
theorem ggL_law_X8_feed : GoodIn wsL_law wsX8_feed := goodIn_r _ [298, 32, 299, 300, 301, 302, 31, 303, 81, 304, 305, 306, 307, 80, 503, 504, 505, 506, 507, 508, 509, 510, 511, 543, 544] (by decide +kernel) (by decide +kernel)
set_option maxRecDepth 20000 in
theorem gL_law_X8_feed : GoodIn wsL_law (wsV RL 30 RX8 yX8_feed wsX8_feed) := goodIn_app (goodIn_of _ (by decide +kernel)) ggL_law_X8_feed
set_option maxRecDepth 20000 in
theorem ggL_law_X9_feed : GoodIn wsL_law wsX9_feed := goodIn_r _ [311, 312, 105, 512, 513, 514, 515, 516, 517, 518, 519, 520, 521, 522, 523, 524, 525, 526, 527, 528, 529, 530, 531, 532] (by decide +kernel) (by decide +kernel)
set_option maxRecDepth 20000 in
theorem gL_law_X9_feed : GoodIn wsL_law (wsV RL 34 RX9 yX9_feed wsX9_feed) := goodIn_app (goodIn_of _ (by decide +kernel)) ggL_law_X9_feed
set_option maxRecDepth 20000 in
theorem ggL_law_X8_reset : GoodIn wsL_law wsX8_reset := goodIn_r _ [316, 32, 299, 317, 318, 319, 31, 320, 81, 503, 504, 505, 506, 507, 508, 509, 510, 511, 543, 544] (by decide +kernel) (by decide +kernel)
set_option maxRecDepth 20000 in
theorem gL_law_X8_reset : GoodIn wsL_law (wsV RL 35 RX8 yX8_reset wsX8_reset) := goodIn_app (goodIn_of _ (by decide +kernel)) ggL_law_X8_reset
set_option maxRecDepth 20000 in
theorem ggL_law_X9_reset : GoodIn wsL_law wsX9_reset := goodIn_r _ [324, 312, 512, 513, 514, 515, 516, 517, 518, 519, 520, 521, 522, 523, 524, 525, 526, 527, 528, 529, 530, 531, 532] (by decide +kernel) (by decide +kernel)
set_option maxRecDepth 20000 in
theorem gL_law_X9_reset : GoodIn wsL_law (wsV RL 39 RX9 yX9_reset wsX9_reset) := goodIn_app (goodIn_of _ (by decide +kernel)) ggL_law_X9_reset
