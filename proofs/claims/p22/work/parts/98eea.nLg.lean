set_option maxRecDepth 20000 in
theorem ggL_holds_X8_count : GoodIn wsL_holds wsX8_count := goodIn_r _ [8, 9, 10, 11, 12, 13, 14, 7, 15, 16, 17, 18, 19, 20, 21, 22, 23, 24, 25, 26, 27, 28, 29, 30, 31, 32, 33, 34, 35, 36, 37, 38, 39, 40, 41, 42, 135, 136, 137, 138, 139, 140, 141, 142, 143, 144, 145, 146, 147, 148, 149, 150, 151, 152, 153, 154, 155, 156, 157, 158, 159, 160, 161, 162, 163, 164, 165, 166, 167, 168, 169, 170, 171, 172, 173, 174] (by decide +kernel) (by decide +kernel)
set_option maxRecDepth 20000 in
theorem gL_holds_X8_count : GoodIn wsL_holds (wsV RL 9 RX8 yX8_count wsX8_count) := goodIn_app (goodIn_of _ (by decide +kernel)) ggL_holds_X8_count
set_option maxRecDepth 20000 in
theorem ggL_holds_X8_leg : GoodIn wsL_holds wsX8_leg := goodIn_r _ [46, 47, 9, 48, 49, 7, 50, 13, 14, 15, 51, 52, 53, 29, 54, 55, 56, 57, 58, 59, 60, 61, 62, 63, 64, 65, 66, 67, 39, 68, 69, 70, 42, 41, 71, 72, 73, 74, 135, 136, 137, 138, 168, 169, 170, 171, 172, 173, 174, 144, 145, 146, 147, 148, 149, 150, 151, 152, 153, 154, 155, 156, 139, 140, 141, 142, 143, 157, 158, 159, 160] (by decide +kernel) (by decide +kernel)
set_option maxRecDepth 20000 in
theorem gL_holds_X8_leg : GoodIn wsL_holds (wsV RL 17 RX8 yX8_leg wsX8_leg) := goodIn_app (goodIn_of _ (by decide +kernel)) ggL_holds_X8_leg
set_option maxRecDepth 20000 in
theorem ggL_holds_X8_load : GoodIn wsL_holds wsX8_load := goodIn_r _ [78, 47, 9, 79, 80, 81, 7, 82, 13, 14, 15, 83, 56, 57, 29, 58, 59, 60, 16, 17, 18, 19, 20, 21, 22, 23, 24, 25, 84, 85, 86, 135, 136, 137, 138, 144, 145, 146, 147, 148, 149, 150, 151, 152, 153, 154, 155, 156, 157, 158, 159, 160, 139, 140, 141, 142, 143, 166, 167] (by decide +kernel) (by decide +kernel)
set_option maxRecDepth 20000 in
theorem gL_holds_X8_load : GoodIn wsL_holds (wsV RL 21 RX8 yX8_load wsX8_load) := goodIn_app (goodIn_of _ (by decide +kernel)) ggL_holds_X8_load
set_option maxRecDepth 20000 in
theorem ggL_holds_X8_fault : GoodIn wsL_holds wsX8_fault := goodIn_r _ [90, 47, 9, 79, 80, 81, 7, 82, 13, 14, 15, 91, 92, 93, 83, 56, 57, 29, 58, 59, 60, 94, 95, 96, 97, 98, 99, 84, 85, 86, 100, 101, 102, 39, 103, 69, 104, 105, 106, 107, 108, 109, 110, 111, 112, 113, 114, 115, 116, 117, 118, 119, 120, 121, 122, 123, 124, 125, 34, 126, 127, 17, 18, 19, 20, 21, 22, 23, 24, 25, 128, 129, 130, 131, 132, 133, 134, 135, 136, 137, 138, 144, 145, 146, 147, 148, 149, 150, 151, 152, 153, 154, 155, 156, 139, 140, 141, 142, 143, 157, 158, 159, 160, 166, 167] (by decide +kernel) (by decide +kernel)
set_option maxRecDepth 20000 in
theorem gL_holds_X8_fault : GoodIn wsL_holds (wsV RL 24 RX8 yX8_fault wsX8_fault) := goodIn_app (goodIn_of _ (by decide +kernel)) ggL_holds_X8_fault
