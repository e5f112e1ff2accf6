set_option maxRecDepth 20000 in
theorem ggL_law_X8_clear : GoodIn wsL_law wsX8_clear := goodIn_r _ [444, 118, 15, 445, 20, 213, 214, 2, 215, 216, 127, 128, 446, 368, 369, 217, 218, 219, 14, 220, 32, 33, 447, 448, 449, 31, 450, 56, 364, 365, 366, 55, 367, 77, 451, 452, 453, 454, 78, 455, 456, 457, 458, 459, 460, 461, 462, 145, 333, 334, 335, 336, 144, 337, 338, 325, 339, 292, 183, 184, 36, 185, 67, 123, 124, 125, 126, 129, 130, 131, 19, 132, 133, 134, 94, 135, 136, 137, 138, 37, 41, 139, 140, 141, 142, 143, 49, 50, 52, 146, 147, 148, 57, 149, 150, 151, 152, 153, 154, 48, 155, 156, 157, 158, 159, 160, 161, 162, 163, 164, 165, 166, 68, 69, 70, 71, 167, 168, 169, 170, 79, 171, 172, 173, 174, 175, 40, 176, 85, 177, 86, 87, 88, 463, 464, 465, 466, 467, 695, 696, 697, 698, 712, 713, 714, 715, 716, 722, 723, 724, 725, 726, 727, 728, 729, 730, 731, 732, 733, 734, 748, 749, 750, 751, 735, 736, 717, 718, 719, 741, 742, 743, 744, 745, 746, 747, 737, 738, 739, 740] (by decide +kernel) (by decide +kernel)
set_option maxRecDepth 20000 in
theorem gL_law_X8_clear : GoodIn wsL_law (wsV RL 36 RX8 yX8_clear wsX8_clear) := goodIn_app (goodIn_of _ (by decide +kernel)) ggL_law_X8_clear
set_option maxRecDepth 20000 in
theorem ggL_law_X9_clear : GoodIn wsL_law wsX9_clear := goodIn_r _ [471, 197, 190, 472, 106, 225, 226, 5, 227, 200, 201, 202, 473, 474, 475, 476, 400, 401, 402, 403, 233, 234, 235, 477, 478, 479, 480, 421, 422, 423, 424, 203, 204, 205, 206, 207, 107, 109, 208, 396, 397, 398, 399, 699, 700, 701, 702, 703, 704, 705, 706, 707, 708, 709, 710, 711] (by decide +kernel) (by decide +kernel)
set_option maxRecDepth 20000 in
theorem gL_law_X9_clear : GoodIn wsL_law (wsV RL 39 RX9 yX9_clear wsX9_clear) := goodIn_app (goodIn_of _ (by decide +kernel)) ggL_law_X9_clear
set_option maxRecDepth 20000 in
theorem ggL_law_X8_undo : GoodIn wsL_law wsX8_undo := goodIn_r _ [484, 20, 445, 15, 485, 486, 487, 19, 488, 133, 94, 134, 135, 136, 137, 14, 138, 32, 33, 37, 41, 139, 140, 141, 142, 31, 143, 49, 50, 52, 56, 144, 145, 146, 147, 148, 57, 149, 150, 151, 152, 153, 154, 48, 155, 156, 157, 158, 159, 160, 161, 162, 163, 164, 165, 36, 166, 67, 68, 69, 70, 71, 167, 168, 169, 55, 170, 77, 78, 79, 171, 172, 173, 174, 175, 40, 176, 85, 177, 86, 87, 88, 695, 696, 697, 698, 717, 718, 719, 712, 713, 714, 715, 716, 722, 723, 724, 725, 726, 727, 728, 729, 730, 731, 732, 733, 734, 741, 742, 743, 744, 745, 746, 747, 735, 736, 748, 749, 750, 751, 737, 738, 739, 740] (by decide +kernel) (by decide +kernel)
set_option maxRecDepth 20000 in
theorem gL_law_X8_undo : GoodIn wsL_law (wsV RL 40 RX8 yX8_undo wsX8_undo) := goodIn_app (goodIn_of _ (by decide +kernel)) ggL_law_X8_undo
set_option maxRecDepth 20000 in
theorem ggL_law_X9_undo : GoodIn wsL_law wsX9_undo := goodIn_r _ [492, 207, 472, 106, 107, 109, 208, 699, 700, 701, 702, 703, 704, 705, 706, 707, 708, 709, 710, 711] (by decide +kernel) (by decide +kernel)
set_option maxRecDepth 20000 in
theorem gL_law_X9_undo : GoodIn wsL_law (wsV RL 44 RX9 yX9_undo wsX9_undo) := goodIn_app (goodIn_of _ (by decide +kernel)) ggL_law_X9_undo
