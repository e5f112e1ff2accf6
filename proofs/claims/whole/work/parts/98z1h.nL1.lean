set_option maxRecDepth 20000 in
theorem ggL_law_X8_ifGo : GoodIn wsL_law wsX8_ifGo := goodIn_r _ [593, 118, 16, 15, 213, 214, 2, 215, 216, 127, 128, 575, 136, 137, 14, 138, 32, 33, 37, 41, 139, 140, 141, 142, 31, 143, 49, 50, 52, 56, 144, 145, 146, 147, 148, 57, 149, 150, 151, 152, 153, 154, 48, 155, 156, 157, 158, 159, 160, 161, 162, 163, 164, 165, 36, 166, 67, 68, 69, 70, 71, 167, 168, 169, 55, 170, 77, 78, 79, 171, 172, 173, 174, 175, 40, 176, 85, 177, 86, 87, 88, 280, 281, 282, 283, 284, 285, 286, 287, 288, 289, 290, 291, 292, 183, 184, 185, 123, 124, 125, 126, 293, 294, 295, 296, 297, 298, 299, 300, 301, 302, 303, 304, 305, 306, 307, 308, 309, 310, 311, 312, 313, 314, 315, 316, 317, 318, 319, 320, 321, 322, 323, 324, 325, 326, 327, 328, 329, 330, 331, 332, 333, 334, 335, 336, 337, 338, 339, 340, 341, 342, 343, 344, 345, 346, 347, 348, 349, 350, 351, 352, 353, 354, 355, 356, 357, 358, 359, 360, 361, 362, 363, 364, 365, 366, 367, 368, 369, 370, 371, 372, 373, 374, 375, 376, 377, 378, 379, 380, 381, 268, 269, 217, 218, 219, 220, 695, 696, 697, 698, 722, 723, 724, 725, 726, 727, 728, 729, 730, 731, 732, 733, 734, 712, 713, 714, 715, 716, 741, 742, 743, 744, 745, 746, 747, 735, 736, 748, 749, 750, 751, 737, 738, 739, 740] (by decide +kernel) (by decide +kernel)
set_option maxRecDepth 20000 in
theorem gL_law_X8_ifGo : GoodIn wsL_law (wsV RL 70 RX8 yX8_ifGo wsX8_ifGo) := goodIn_app (goodIn_of _ (by decide +kernel)) ggL_law_X8_ifGo
set_option maxRecDepth 20000 in
theorem ggL_law_X9_ifGo : GoodIn wsL_law wsX9_ifGo := goodIn_r _ [597, 231, 190, 106, 225, 226, 5, 227, 200, 201, 202, 581, 582, 583, 584, 110, 208, 585, 388, 389, 390, 391, 392, 393, 394, 395, 396, 397, 398, 399, 400, 401, 402, 403, 233, 234, 235, 256, 257, 258, 404, 405, 406, 407, 408, 409, 410, 411, 113, 412, 413, 414, 415, 416, 417, 418, 419, 420, 421, 422, 423, 424, 425, 426, 427, 428, 429, 430, 431, 432, 433, 434, 435, 436, 437, 438, 439, 440, 586, 587, 588, 589, 699, 700, 701, 702, 703, 704, 705, 706, 707, 708, 709, 710, 711] (by decide +kernel) (by decide +kernel)
set_option maxRecDepth 20000 in
theorem gL_law_X9_ifGo : GoodIn wsL_law (wsV RL 73 RX9 yX9_ifGo wsX9_ifGo) := goodIn_app (goodIn_of _ (by decide +kernel)) ggL_law_X9_ifGo
set_option maxRecDepth 20000 in
theorem ggL_law_X8_type : GoodIn wsL_law wsX8_type := goodIn_r _ [601, 118, 24, 279, 216, 127, 2, 128, 602, 603, 604, 23, 605, 606, 101, 695, 696, 697, 698, 720, 721] (by decide +kernel) (by decide +kernel)
set_option maxRecDepth 20000 in
theorem gL_law_X8_type : GoodIn wsL_law (wsV RL 74 RX8 yX8_type wsX8_type) := goodIn_app (goodIn_of _ (by decide +kernel)) ggL_law_X8_type
set_option maxRecDepth 20000 in
theorem ggL_law_X9_type : GoodIn wsL_law wsX9_type := goodIn_r _ [610, 611, 612, 190, 514, 387, 111, 200, 201, 5, 202, 699, 700, 701, 702, 703, 704, 705, 706, 707, 708, 709, 710, 711] (by decide +kernel) (by decide +kernel)
set_option maxRecDepth 20000 in
theorem gL_law_X9_type : GoodIn wsL_law (wsV RL 77 RX9 yX9_type wsX9_type) := goodIn_app (goodIn_of _ (by decide +kernel)) ggL_law_X9_type
