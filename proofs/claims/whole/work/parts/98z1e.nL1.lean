set_option maxRecDepth 20000 in
theorem ggL_law_X8_count : GoodIn wsL_law wsX8_count := goodIn_r _ [496, 15, 20, 24, 497, 216, 127, 2, 128, 498, 183, 184, 36, 185, 67, 123, 124, 125, 126, 499, 500, 501, 14, 502, 139, 503, 324, 325, 326, 504, 505, 506, 31, 507, 49, 50, 695, 696, 697, 698, 712, 713, 714, 715, 716, 722, 723, 724, 725, 726, 727, 728, 729, 730, 731, 732, 733, 734, 748, 749, 750, 751, 717, 718, 719, 720, 721, 735, 736, 741, 742, 743, 744, 745, 746, 747] (by decide +kernel) (by decide +kernel)
set_option maxRecDepth 20000 in
theorem gL_law_X8_count : GoodIn wsL_law (wsV RL 45 RX8 yX8_count wsX8_count) := goodIn_app (goodIn_of _ (by decide +kernel)) ggL_law_X8_count
set_option maxRecDepth 20000 in
theorem ggL_law_X9_count : GoodIn wsL_law wsX9_count := goodIn_r _ [511, 512, 513, 106, 207, 514, 208, 515, 200, 201, 5, 202, 396, 397, 398, 399, 400, 401, 402, 403, 233, 234, 235, 699, 700, 701, 702, 703, 704, 705, 706, 707, 708, 709, 710, 711] (by decide +kernel) (by decide +kernel)
set_option maxRecDepth 20000 in
theorem gL_law_X9_count : GoodIn wsL_law (wsV RL 49 RX9 yX9_count wsX9_count) := goodIn_app (goodIn_of _ (by decide +kernel)) ggL_law_X9_count
set_option maxRecDepth 20000 in
theorem ggL_law_X8_leg : GoodIn wsL_law wsX8_leg := goodIn_r _ [519, 118, 15, 240, 241, 2, 242, 216, 127, 128, 243, 244, 245, 14, 246, 247, 218, 219, 220, 32, 33, 520, 521, 522, 523, 524, 294, 295, 31, 296, 56, 147, 50, 49, 525, 298, 299, 300, 695, 696, 697, 698, 741, 742, 743, 744, 745, 746, 747, 722, 723, 724, 725, 726, 727, 728, 729, 730, 731, 732, 733, 734, 712, 713, 714, 715, 716, 748, 749, 750, 751] (by decide +kernel) (by decide +kernel)
set_option maxRecDepth 20000 in
theorem gL_law_X8_leg : GoodIn wsL_law (wsV RL 50 RX8 yX8_leg wsX8_leg) := goodIn_app (goodIn_of _ (by decide +kernel)) ggL_law_X8_leg
set_option maxRecDepth 20000 in
theorem ggL_law_X9_leg : GoodIn wsL_law wsX9_leg := goodIn_r _ [529, 530, 190, 106, 252, 253, 5, 254, 255, 200, 201, 202, 256, 257, 258, 392, 393, 394, 395, 396, 397, 398, 399, 400, 401, 402, 403, 233, 234, 235, 699, 700, 701, 702, 703, 704, 705, 706, 707, 708, 709, 710, 711] (by decide +kernel) (by decide +kernel)
set_option maxRecDepth 20000 in
theorem gL_law_X9_leg : GoodIn wsL_law (wsV RL 53 RX9 yX9_leg wsX9_leg) := goodIn_app (goodIn_of _ (by decide +kernel)) ggL_law_X9_leg
