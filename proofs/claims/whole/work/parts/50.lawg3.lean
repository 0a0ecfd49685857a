set_option maxRecDepth 20000 in
theorem ggL_law_X8_part : GoodIn wsL_law wsX8_part := goodIn_r _ [408, 40, 378, 282, 283, 2, 284, 409, 410, 411, 39, 412, 95, 290, 198, 199, 43, 200, 67, 503, 504, 505, 506, 507, 508, 509, 510, 511, 546, 547, 548, 549] (by decide +kernel) (by decide +kernel)
set_option maxRecDepth 20000 in
theorem gL_law_X8_part : GoodIn wsL_law (wsV RL 53 RX8 yX8_part wsX8_part) := goodIn_app (goodIn_of _ (by decide +kernel)) ggL_law_X8_part
set_option maxRecDepth 20000 in
theorem ggL_law_X9_part : GoodIn wsL_law wsX9_part := goodIn_r _ [416, 106, 107, 417, 418, 419, 5, 420, 139, 102, 512, 513, 514, 515, 516, 517, 518, 519, 520, 521, 522, 523, 524, 525, 526, 527, 528, 529, 530, 531, 532] (by decide +kernel) (by decide +kernel)
set_option maxRecDepth 20000 in
theorem gL_law_X9_part : GoodIn wsL_law (wsV RL 57 RX9 yX9_part wsX9_part) := goodIn_app (goodIn_of _ (by decide +kernel)) ggL_law_X9_part
set_option maxRecDepth 20000 in
theorem ggL_law_X8_setLeaf : GoodIn wsL_law wsX8_setLeaf := goodIn_r _ [424, 40, 400, 425, 426, 427, 39, 428, 94, 503, 504, 505, 506, 507, 508, 509, 510, 511, 546, 547, 548] (by decide +kernel) (by decide +kernel)
set_option maxRecDepth 20000 in
theorem gL_law_X8_setLeaf : GoodIn wsL_law (wsV RL 58 RX8 yX8_setLeaf wsX8_setLeaf) := goodIn_app (goodIn_of _ (by decide +kernel)) ggL_law_X8_setLeaf
set_option maxRecDepth 20000 in
theorem ggL_law_X9_setLeaf : GoodIn wsL_law wsX9_setLeaf := goodIn_r _ [432, 139, 395, 512, 513, 514, 515, 516, 517, 518, 519, 520, 521, 522, 523, 524, 525, 526, 527, 528, 529, 530, 531, 532] (by decide +kernel) (by decide +kernel)
set_option maxRecDepth 20000 in
theorem gL_law_X9_setLeaf : GoodIn wsL_law (wsV RL 61 RX9 yX9_setLeaf wsX9_setLeaf) := goodIn_app (goodIn_of _ (by decide +kernel)) ggL_law_X9_setLeaf
set_option maxRecDepth 20000 in
theorem ggL_law_X8_setPart : GoodIn wsL_law wsX8_setPart := goodIn_r _ [436, 40, 378, 282, 283, 2, 284, 409, 410, 411, 39, 412, 95, 437, 186, 187, 43, 188, 67, 503, 504, 505, 506, 507, 508, 509, 510, 511, 546, 547, 548, 549] (by decide +kernel) (by decide +kernel)
set_option maxRecDepth 20000 in
theorem gL_law_X8_setPart : GoodIn wsL_law (wsV RL 62 RX8 yX8_setPart wsX8_setPart) := goodIn_app (goodIn_of _ (by decide +kernel)) ggL_law_X8_setPart
set_option maxRecDepth 20000 in
theorem ggL_law_X9_setPart : GoodIn wsL_law wsX9_setPart := goodIn_r _ [441, 106, 107, 417, 418, 419, 5, 420, 139, 102, 512, 513, 514, 515, 516, 517, 518, 519, 520, 521, 522, 523, 524, 525, 526, 527, 528, 529, 530, 531, 532] (by decide +kernel) (by decide +kernel)
set_option maxRecDepth 20000 in
theorem gL_law_X9_setPart : GoodIn wsL_law (wsV RL 66 RX9 yX9_setPart wsX9_setPart) := goodIn_app (goodIn_of _ (by decide +kernel)) ggL_law_X9_setPart
