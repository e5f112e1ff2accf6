set_option maxRecDepth 20000 in
theorem ggL_law_X8_setLoad : GoodIn wsL_law wsX8_setLoad := goodIn_r _ [212, 15, 118, 20, 213, 214, 2, 215, 216, 127, 128, 217, 218, 219, 14, 220, 32, 33, 119, 120, 121, 36, 122, 65, 123, 124, 125, 126, 67, 129, 130, 131, 19, 132, 133, 134, 94, 135, 136, 137, 138, 37, 41, 139, 140, 141, 142, 31, 143, 49, 50, 52, 56, 144, 145, 146, 147, 148, 57, 149, 150, 151, 152, 153, 154, 48, 155, 156, 157, 158, 159, 160, 161, 162, 163, 164, 165, 166, 68, 69, 70, 71, 167, 168, 169, 55, 170, 77, 78, 79, 171, 172, 173, 174, 175, 40, 176, 85, 177, 86, 87, 88, 178, 179, 180, 181, 182, 183, 184, 185, 695, 696, 697, 698, 722, 723, 724, 725, 726, 727, 728, 729, 730, 731, 732, 733, 734, 712, 713, 714, 715, 716, 735, 736, 717, 718, 719, 741, 742, 743, 744, 745, 746, 747, 748, 749, 750, 751, 737, 738, 739, 740] (by decide +kernel) (by decide +kernel)
set_option maxRecDepth 20000 in
theorem gL_law_X8_setLoad : GoodIn wsL_law (wsV RL 18 RX8 yX8_setLoad wsX8_setLoad) := goodIn_app (goodIn_of _ (by decide +kernel)) ggL_law_X8_setLoad
set_option maxRecDepth 20000 in
theorem ggL_law_X9_setLoad : GoodIn wsL_law wsX9_setLoad := goodIn_r _ [224, 190, 106, 225, 226, 5, 227, 200, 201, 202, 228, 229, 230, 231, 198, 232, 203, 204, 205, 206, 207, 107, 109, 208, 233, 234, 235, 699, 700, 701, 702, 703, 704, 705, 706, 707, 708, 709, 710, 711] (by decide +kernel) (by decide +kernel)
set_option maxRecDepth 20000 in
theorem gL_law_X9_setLoad : GoodIn wsL_law (wsV RL 22 RX9 yX9_setLoad wsX9_setLoad) := goodIn_app (goodIn_of _ (by decide +kernel)) ggL_law_X9_setLoad
set_option maxRecDepth 20000 in
theorem ggL_law_X8_command : GoodIn wsL_law wsX8_command := goodIn_r _ [239, 118, 20, 15, 240, 241, 2, 242, 216, 127, 128, 129, 130, 131, 19, 132, 133, 134, 94, 135, 136, 137, 14, 138, 32, 33, 37, 41, 139, 140, 141, 142, 31, 143, 49, 50, 52, 56, 144, 145, 146, 147, 148, 57, 149, 150, 151, 152, 153, 154, 48, 155, 156, 157, 158, 159, 160, 161, 162, 163, 164, 165, 36, 166, 67, 68, 69, 70, 71, 167, 168, 169, 55, 170, 77, 78, 79, 171, 172, 173, 174, 175, 40, 176, 85, 177, 86, 87, 88, 243, 244, 245, 246, 247, 218, 219, 220, 695, 696, 697, 698, 741, 742, 743, 744, 745, 746, 747, 717, 718, 719, 712, 713, 714, 715, 716, 722, 723, 724, 725, 726, 727, 728, 729, 730, 731, 732, 733, 734, 735, 736, 748, 749, 750, 751, 737, 738, 739, 740] (by decide +kernel) (by decide +kernel)
set_option maxRecDepth 20000 in
theorem gL_law_X8_command : GoodIn wsL_law (wsV RL 23 RX8 yX8_command wsX8_command) := goodIn_app (goodIn_of _ (by decide +kernel)) ggL_law_X8_command
set_option maxRecDepth 20000 in
theorem ggL_law_X9_command : GoodIn wsL_law wsX9_command := goodIn_r _ [251, 197, 190, 106, 252, 253, 5, 254, 255, 200, 201, 202, 203, 204, 205, 206, 207, 107, 109, 208, 256, 257, 258, 699, 700, 701, 702, 703, 704, 705, 706, 707, 708, 709, 710, 711] (by decide +kernel) (by decide +kernel)
set_option maxRecDepth 20000 in
theorem gL_law_X9_command : GoodIn wsL_law (wsV RL 26 RX9 yX9_command wsX9_command) := goodIn_app (goodIn_of _ (by decide +kernel)) ggL_law_X9_command
