set_option maxRecDepth 20000 in
theorem ggL_law_X8_digit : GoodIn wsL_law wsX8_digit := goodIn_r _ [328, 16, 28, 281, 36, 329, 330, 331, 332, 15, 333, 334, 152, 153, 154, 50, 335, 336, 337, 2, 338, 280, 285, 286, 287, 27, 288, 74, 339, 340, 341, 342, 20, 32, 299, 149, 343, 344, 345, 167, 168, 19, 169, 170, 171, 346, 173, 174, 175, 176, 177, 178, 179, 180, 347, 194, 195, 196, 197, 198, 199, 43, 200, 67, 201, 348, 349, 350, 351, 352, 353, 354, 355, 356, 35, 357, 87, 358, 359, 360, 503, 504, 505, 506, 507, 508, 509, 510, 511, 541, 542, 545, 533, 534, 535, 536, 543, 544, 537, 538, 549] (by decide +kernel) (by decide +kernel)
set_option maxRecDepth 20000 in
theorem gL_law_X8_digit : GoodIn wsL_law (wsV RL 40 RX8 yX8_digit wsX8_digit) := goodIn_app (goodIn_of _ (by decide +kernel)) ggL_law_X8_digit
set_option maxRecDepth 20000 in
theorem ggL_law_X9_digit : GoodIn wsL_law wsX9_digit := goodIn_r _ [364, 103, 102, 104, 110, 365, 366, 367, 5, 368, 137, 233, 234, 235, 236, 268, 269, 270, 369, 370, 371, 372, 373, 312, 136, 105, 231, 232, 241, 242, 243, 244, 245, 246, 247, 248, 249, 250, 251, 252, 253, 512, 513, 514, 515, 516, 517, 518, 519, 520, 521, 522, 523, 524, 525, 526, 527, 528, 529, 530, 531, 532] (by decide +kernel) (by decide +kernel)
set_option maxRecDepth 20000 in
theorem gL_law_X9_digit : GoodIn wsL_law (wsV RL 44 RX9 yX9_digit wsX9_digit) := goodIn_app (goodIn_of _ (by decide +kernel)) ggL_law_X9_digit
set_option maxRecDepth 20000 in
theorem ggL_law_X8_sign : GoodIn wsL_law wsX8_sign := goodIn_r _ [377, 45, 16, 28, 281, 40, 280, 24, 378, 149, 36, 329, 335, 336, 337, 2, 338, 285, 286, 287, 27, 288, 74, 151, 152, 153, 15, 154, 50, 339, 340, 341, 342, 20, 32, 299, 343, 344, 345, 167, 168, 19, 169, 170, 171, 346, 173, 174, 175, 176, 177, 178, 179, 180, 347, 194, 195, 196, 197, 198, 199, 43, 200, 67, 201, 348, 349, 350, 351, 352, 353, 354, 355, 356, 35, 357, 87, 358, 359, 360, 379, 380, 381, 39, 382, 94, 95, 383, 161, 162, 23, 163, 61, 164, 165, 166, 172, 181, 182, 183, 184, 185, 186, 187, 188, 384, 190, 191, 192, 193, 289, 214, 215, 385, 386, 387, 388, 389, 390, 503, 504, 505, 506, 507, 508, 509, 510, 511, 541, 542, 533, 534, 535, 536, 546, 547, 548, 545, 543, 544, 537, 538, 549, 539, 540] (by decide +kernel) (by decide +kernel)
set_option maxRecDepth 20000 in
theorem gL_law_X8_sign : GoodIn wsL_law (wsV RL 45 RX8 yX8_sign wsX8_sign) := goodIn_app (goodIn_of _ (by decide +kernel)) ggL_law_X8_sign
set_option maxRecDepth 20000 in
theorem ggL_law_X9_sign : GoodIn wsL_law wsX9_sign := goodIn_r _ [394, 138, 103, 102, 104, 110, 106, 231, 107, 232, 139, 395, 365, 366, 367, 5, 368, 137, 233, 234, 235, 236, 268, 269, 270, 369, 370, 371, 372, 373, 312, 136, 105, 241, 242, 243, 244, 245, 246, 247, 248, 249, 250, 251, 252, 253, 237, 238, 239, 240, 134, 135, 254, 255, 256, 257, 258, 512, 513, 514, 515, 516, 517, 518, 519, 520, 521, 522, 523, 524, 525, 526, 527, 528, 529, 530, 531, 532] (by decide +kernel) (by decide +kernel)
set_option maxRecDepth 20000 in
theorem gL_law_X9_sign : GoodIn wsL_law (wsV RL 48 RX9 yX9_sign wsX9_sign) := goodIn_app (goodIn_of _ (by decide +kernel)) ggL_law_X9_sign
set_option maxRecDepth 20000 in
theorem ggL_law_X8_leaf : GoodIn wsL_law wsX8_leaf := goodIn_r _ [399, 40, 400, 503, 504, 505, 506, 507, 508, 509, 510, 511, 546, 547, 548] (by decide +kernel) (by decide +kernel)
set_option maxRecDepth 20000 in
theorem gL_law_X8_leaf : GoodIn wsL_law (wsV RL 49 RX8 yX8_leaf wsX8_leaf) := goodIn_app (goodIn_of _ (by decide +kernel)) ggL_law_X8_leaf
set_option maxRecDepth 20000 in
theorem ggL_law_X9_leaf : GoodIn wsL_law wsX9_leaf := goodIn_r _ [404, 139, 395, 512, 513, 514, 515, 516, 517, 518, 519, 520, 521, 522, 523, 524, 525, 526, 527, 528, 529, 530, 531, 532] (by decide +kernel) (by decide +kernel)
set_option maxRecDepth 20000 in
theorem gL_law_X9_leaf : GoodIn wsL_law (wsV RL 52 RX9 yX9_leaf wsX9_leaf) := goodIn_app (goodIn_of _ (by decide +kernel)) ggL_law_X9_leaf
