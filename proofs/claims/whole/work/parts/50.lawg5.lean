set_option maxRecDepth 20000 in
theorem ggL_law_X8_count : GoodIn wsL_law wsX8_count := goodIn_r _ [488, 16, 28, 144, 45, 32, 299, 40, 489, 151, 152, 153, 15, 154, 50, 503, 504, 505, 506, 507, 508, 509, 510, 511, 541, 542, 543, 544, 546, 547, 548, 533, 534, 535, 536] (by decide +kernel) (by decide +kernel)
set_option maxRecDepth 20000 in
theorem gL_law_X8_count : GoodIn wsL_law (wsV RL 80 RX8 yX8_count wsX8_count) := goodIn_app (goodIn_of _ (by decide +kernel)) ggL_law_X8_count
set_option maxRecDepth 20000 in
theorem ggL_law_X9_count : GoodIn wsL_law wsX9_count := goodIn_r _ [493, 137, 138, 312, 139, 102, 233, 234, 235, 5, 236, 512, 513, 514, 515, 516, 517, 518, 519, 520, 521, 522, 523, 524, 525, 526, 527, 528, 529, 530, 531, 532] (by decide +kernel) (by decide +kernel)
set_option maxRecDepth 20000 in
theorem gL_law_X9_count : GoodIn wsL_law (wsV RL 83 RX9 yX9_count wsX9_count) := goodIn_app (goodIn_of _ (by decide +kernel)) ggL_law_X9_count
set_option maxRecDepth 20000 in
theorem ggL_law_X8_check : GoodIn wsL_law wsX8_check := goodIn_r _ [497, 16, 280, 28, 144, 20, 281, 498, 218, 219, 27, 220, 221, 73, 212, 222, 223, 224, 19, 225, 206, 167, 168, 169, 170, 171, 201, 173, 174, 175, 176, 177, 178, 179, 180, 213, 214, 215, 226, 194, 195, 196, 197, 198, 199, 43, 200, 67, 289, 469, 470, 471, 472, 503, 504, 505, 506, 507, 508, 509, 510, 511, 533, 534, 535, 536, 541, 542, 537, 538, 549] (by decide +kernel) (by decide +kernel)
set_option maxRecDepth 20000 in
theorem gL_law_X8_check : GoodIn wsL_law (wsV RL 84 RX8 yX8_check wsX8_check) := goodIn_app (goodIn_of _ (by decide +kernel)) ggL_law_X8_check
set_option maxRecDepth 20000 in
theorem ggL_law_X9_check : GoodIn wsL_law wsX9_check := goodIn_r _ [502, 102, 103, 104, 231, 232, 264, 265, 266, 5, 267, 137, 233, 234, 235, 236, 268, 269, 270, 271, 272, 273, 274, 275, 136, 241, 242, 243, 244, 245, 246, 247, 248, 249, 250, 251, 252, 253, 512, 513, 514, 515, 516, 517, 518, 519, 520, 521, 522, 523, 524, 525, 526, 527, 528, 529, 530, 531, 532] (by decide +kernel) (by decide +kernel)
set_option maxRecDepth 20000 in
theorem gL_law_X9_check : GoodIn wsL_law (wsV RL 87 RX9 yX9_check wsX9_check) := goodIn_app (goodIn_of _ (by decide +kernel)) ggL_law_X9_check
