set_option maxRecDepth 20000 in
theorem ggL_law_X8_tell : GoodIn wsL_law wsX8_tell := goodIn_r _ [445, 44, 282, 283, 2, 284, 437, 186, 187, 43, 188, 67, 503, 504, 505, 506, 507, 508, 509, 510, 511, 549] (by decide +kernel) (by decide +kernel)
set_option maxRecDepth 20000 in
theorem gL_law_X8_tell : GoodIn wsL_law (wsV RL 67 RX8 yX8_tell wsX8_tell) := goodIn_app (goodIn_of _ (by decide +kernel)) ggL_law_X8_tell
set_option maxRecDepth 20000 in
theorem ggL_law_X9_tell : GoodIn wsL_law wsX9_tell := goodIn_r _ [449, 450, 451, 512, 513, 514, 515, 516, 517, 518, 519, 520, 521, 522, 523, 524, 525, 526, 527, 528, 529, 530, 531, 532] (by decide +kernel) (by decide +kernel)
set_option maxRecDepth 20000 in
theorem gL_law_X9_tell : GoodIn wsL_law (wsV RL 71 RX9 yX9_tell wsX9_tell) := goodIn_app (goodIn_of _ (by decide +kernel)) ggL_law_X9_tell
set_option maxRecDepth 20000 in
theorem ggL_law_X8_verify : GoodIn wsL_law wsX8_verify := goodIn_r _ [455, 40, 16, 400, 44, 24, 149, 36, 20, 150, 425, 426, 427, 39, 428, 94, 330, 331, 332, 15, 333, 334, 152, 153, 154, 50, 339, 340, 341, 2, 342, 32, 299, 343, 344, 345, 167, 168, 19, 169, 170, 171, 346, 173, 174, 175, 176, 177, 178, 179, 180, 347, 194, 195, 196, 197, 198, 199, 43, 200, 67, 201, 348, 349, 350, 351, 352, 353, 354, 355, 356, 35, 357, 87, 358, 359, 360, 456, 457, 458, 23, 459, 59, 460, 461, 462, 463, 386, 387, 388, 389, 390, 186, 187, 188, 189, 190, 191, 192, 61, 166, 172, 193, 181, 182, 183, 184, 185, 202, 203, 204, 205, 206, 207, 464, 465, 466, 467, 280, 378, 468, 223, 224, 225, 469, 470, 471, 472, 503, 504, 505, 506, 507, 508, 509, 510, 511, 546, 547, 548, 533, 534, 535, 536, 539, 540, 543, 544, 537, 538, 549, 545] (by decide +kernel) (by decide +kernel)
set_option maxRecDepth 20000 in
theorem gL_law_X8_verify : GoodIn wsL_law (wsV RL 72 RX8 yX8_verify wsX8_verify) := goodIn_app (goodIn_of _ (by decide +kernel)) ggL_law_X8_verify
set_option maxRecDepth 20000 in
theorem ggL_law_X9_verify : GoodIn wsL_law wsX9_verify := goodIn_r _ [476, 139, 395, 450, 451, 106, 231, 107, 232, 110, 108, 109, 102, 233, 234, 235, 5, 236, 369, 370, 371, 372, 373, 312, 136, 105, 241, 242, 243, 244, 245, 246, 247, 248, 249, 250, 251, 252, 253, 254, 255, 256, 257, 258, 259, 260, 261, 262, 263, 271, 272, 273, 274, 275, 512, 513, 514, 515, 516, 517, 518, 519, 520, 521, 522, 523, 524, 525, 526, 527, 528, 529, 530, 531, 532] (by decide +kernel) (by decide +kernel)
set_option maxRecDepth 20000 in
theorem gL_law_X9_verify : GoodIn wsL_law (wsV RL 75 RX9 yX9_verify wsX9_verify) := goodIn_app (goodIn_of _ (by decide +kernel)) ggL_law_X9_verify
set_option maxRecDepth 20000 in
theorem ggL_law_X8_hash : GoodIn wsL_law wsX8_hash := goodIn_r _ [480, 20, 32, 299, 343, 344, 282, 283, 2, 284, 345, 167, 168, 19, 169, 170, 171, 348, 349, 350, 351, 352, 353, 201, 173, 174, 175, 176, 177, 178, 179, 180, 503, 504, 505, 506, 507, 508, 509, 510, 511, 543, 544, 537, 538] (by decide +kernel) (by decide +kernel)
set_option maxRecDepth 20000 in
theorem gL_law_X8_hash : GoodIn wsL_law (wsV RL 76 RX8 yX8_hash wsX8_hash) := goodIn_app (goodIn_of _ (by decide +kernel)) ggL_law_X8_hash
set_option maxRecDepth 20000 in
theorem ggL_law_X9_hash : GoodIn wsL_law wsX9_hash := goodIn_r _ [484, 312, 105, 231, 232, 241, 242, 243, 5, 244, 245, 246, 247, 248, 249, 250, 251, 252, 253, 512, 513, 514, 515, 516, 517, 518, 519, 520, 521, 522, 523, 524, 525, 526, 527, 528, 529, 530, 531, 532] (by decide +kernel) (by decide +kernel)
set_option maxRecDepth 20000 in
theorem gL_law_X9_hash : GoodIn wsL_law (wsV RL 79 RX9 yX9_hash wsX9_hash) := goodIn_app (goodIn_of _ (by decide +kernel)) ggL_law_X9_hash
