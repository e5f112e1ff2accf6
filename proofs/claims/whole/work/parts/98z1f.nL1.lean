set_option maxRecDepth 20000 in
theorem ggL_law_X8_load : GoodIn wsL_law wsX8_load := goodIn_r _ [534, 118, 15, 535, 213, 214, 2, 215, 216, 127, 128, 217, 218, 219, 14, 220, 32, 33, 498, 183, 184, 36, 185, 67, 123, 124, 125, 126, 267, 268, 269, 695, 696, 697, 698, 722, 723, 724, 725, 726, 727, 728, 729, 730, 731, 732, 733, 734, 748, 749, 750, 751, 712, 713, 714, 715, 716, 735, 736] (by decide +kernel) (by decide +kernel)
set_option maxRecDepth 20000 in
theorem gL_law_X8_load : GoodIn wsL_law (wsV RL 54 RX8 yX8_load wsX8_load) := goodIn_app (goodIn_of _ (by decide +kernel)) ggL_law_X8_load
set_option maxRecDepth 20000 in
theorem ggL_law_X9_load : GoodIn wsL_law wsX9_load := goodIn_r _ [539, 540, 190, 106, 541, 225, 226, 5, 227, 200, 201, 202, 233, 234, 235, 396, 397, 398, 399, 400, 401, 402, 403, 699, 700, 701, 702, 703, 704, 705, 706, 707, 708, 709, 710, 711] (by decide +kernel) (by decide +kernel)
set_option maxRecDepth 20000 in
theorem gL_law_X9_load : GoodIn wsL_law (wsV RL 57 RX9 yX9_load wsX9_load) := goodIn_app (goodIn_of _ (by decide +kernel)) ggL_law_X9_load
set_option maxRecDepth 20000 in
theorem ggL_law_X8_fault : GoodIn wsL_law wsX8_fault := goodIn_r _ [545, 118, 15, 535, 213, 214, 2, 215, 216, 127, 128, 446, 368, 369, 217, 218, 219, 14, 220, 32, 33, 546, 365, 366, 55, 367, 77, 267, 268, 269, 447, 448, 449, 31, 450, 56, 364, 451, 452, 453, 454, 78, 455, 456, 457, 458, 459, 460, 461, 462, 145, 333, 334, 335, 336, 144, 337, 338, 325, 339, 292, 183, 184, 36, 185, 67, 123, 124, 125, 126, 547, 548, 549, 550, 551, 79, 552, 695, 696, 697, 698, 722, 723, 724, 725, 726, 727, 728, 729, 730, 731, 732, 733, 734, 712, 713, 714, 715, 716, 748, 749, 750, 751, 735, 736] (by decide +kernel) (by decide +kernel)
set_option maxRecDepth 20000 in
theorem gL_law_X8_fault : GoodIn wsL_law (wsV RL 58 RX8 yX8_fault wsX8_fault) := goodIn_app (goodIn_of _ (by decide +kernel)) ggL_law_X8_fault
set_option maxRecDepth 20000 in
theorem ggL_law_X9_fault : GoodIn wsL_law wsX9_fault := goodIn_r _ [556, 197, 557, 190, 541, 106, 225, 226, 5, 227, 200, 201, 202, 473, 474, 475, 476, 400, 401, 402, 403, 233, 234, 235, 477, 478, 479, 480, 421, 422, 423, 424, 699, 700, 701, 702, 703, 704, 705, 706, 707, 708, 709, 710, 711] (by decide +kernel) (by decide +kernel)
set_option maxRecDepth 20000 in
theorem gL_law_X9_fault : GoodIn wsL_law (wsV RL 61 RX9 yX9_fault wsX9_fault) := goodIn_app (goodIn_of _ (by decide +kernel)) ggL_law_X9_fault
