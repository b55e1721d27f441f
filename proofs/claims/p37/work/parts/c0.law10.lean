set_option maxRecDepth 20000 in
theorem gL_same_X6_cycle : GoodIn wsL_same (wsV RL 71 RX6 yX6_cycle wsX6_cycle) := goodIn_app (goodIn_of _ (by decide +kernel)) ggL_same_X6_cycle
set_option maxRecDepth 20000 in
theorem ggL_same_X6_idle : GoodIn wsL_same wsX6_idle := goodIn_r _ [10, 6, 249, 250, 251, 252, 253, 254, 255, 256, 257, 258, 259, 260, 261] (by decide +kernel) (by decide +kernel)
set_option maxRecDepth 20000 in
theorem gL_same_X6_idle : GoodIn wsL_same (wsV RL 74 RX6 yX6_idle wsX6_idle) := goodIn_app (goodIn_of _ (by decide +kernel)) ggL_same_X6_idle
set_option maxRecDepth 20000 in
theorem ggL_same_X6_setting : GoodIn wsL_same wsX6_setting := goodIn_r _ [14, 6, 15, 16, 17, 4, 18, 19, 20, 21, 249, 250, 251, 252, 253, 254, 255, 256, 257, 258, 259, 260, 261] (by decide +kernel) (by decide +kernel)
set_option maxRecDepth 20000 in
theorem gL_same_X6_setting : GoodIn wsL_same (wsV RL 77 RX6 yX6_setting wsX6_setting) := goodIn_app (goodIn_of _ (by decide +kernel)) ggL_same_X6_setting
set_option maxRecDepth 20000 in
theorem ggL_same_X6_nextThread : GoodIn wsL_same wsX6_nextThread := goodIn_r _ [25, 6, 26, 27, 28, 29, 30, 31, 32, 33, 34, 35, 36, 37, 38, 39, 40, 41, 42, 43, 44, 45, 46, 47, 48, 49, 50, 51, 52, 53, 54, 55, 56, 57, 58, 59, 60, 61, 62, 63, 64, 249, 250, 251, 252, 253, 254, 255, 256, 257, 258, 259, 260, 261, 262, 263, 264, 265, 266, 267, 268, 269, 270, 271, 272] (by decide +kernel) (by decide +kernel)
set_option maxRecDepth 20000 in
theorem gL_same_X6_nextThread : GoodIn wsL_same (wsV RL 103 RX6 yX6_nextThread wsX6_nextThread) := goodIn_app (goodIn_of _ (by decide +kernel)) ggL_same_X6_nextThread
set_option maxRecDepth 20000 in
theorem ggL_same_X6_cyclesLeft : GoodIn wsL_same wsX6_cyclesLeft := goodIn_r _ [68, 6, 69, 70, 71, 4, 72, 73, 74, 75, 76, 29, 77, 37, 78, 79, 80, 81, 82, 83, 84, 54, 31, 85, 38, 86, 87, 88, 89, 46, 90, 91, 92, 48, 93, 94, 95, 49, 96, 97, 98, 99, 100, 101, 102, 103, 104, 105, 106, 107, 108, 109, 110, 111, 112, 113, 114, 115, 116, 117, 118, 119, 120, 121, 32, 122, 123, 124, 125, 126, 127, 128, 129, 130, 131, 132, 133, 43, 44, 45, 47, 134, 135, 136, 137, 39, 40, 41, 42, 138, 27, 28, 30, 33, 34, 35, 36, 50, 51, 52, 53, 55, 56, 57, 58, 59, 60, 61, 62, 63, 64, 139, 140, 141, 142, 143, 144, 145, 146, 147, 148, 149, 150, 151, 152, 19, 20, 21, 153, 154, 155, 156, 157, 158, 159, 160, 161, 162, 163, 164, 165, 166, 167, 168, 169, 170, 171, 172, 173, 174, 175, 176, 177, 178, 179, 180, 181, 182, 183, 249, 250, 251, 252, 253, 254, 255, 256, 257, 258, 259, 260, 261, 262, 263, 264, 265, 266, 267, 268, 269, 270, 271, 272, 273, 274, 275, 276, 277] (by decide +kernel) (by decide +kernel)
set_option maxRecDepth 20000 in
theorem gL_same_X6_cyclesLeft : GoodIn wsL_same (wsV RL 106 RX6 yX6_cyclesLeft wsX6_cyclesLeft) := goodIn_app (goodIn_of _ (by decide +kernel)) ggL_same_X6_cyclesLeft
set_option maxRecDepth 20000 in
theorem ggL_same_X6_operation : GoodIn wsL_same wsX6_operation := goodIn_r _ [187, 6, 15, 188, 168, 4, 169, 19, 20, 21, 249, 250, 251, 252, 253, 254, 255, 256, 257, 258, 259, 260, 261, 273, 274] (by decide +kernel) (by decide +kernel)
set_option maxRecDepth 20000 in
theorem gL_same_X6_operation : GoodIn wsL_same (wsV RL 116 RX6 yX6_operation wsX6_operation) := goodIn_app (goodIn_of _ (by decide +kernel)) ggL_same_X6_operation
set_option maxRecDepth 20000 in
theorem ggL_same_X6_operand : GoodIn wsL_same wsX6_operand := goodIn_r _ [192, 15, 193, 6, 188, 168, 4, 169, 19, 20, 21, 249, 250, 251, 252, 253, 254, 255, 256, 257, 258, 259, 260, 261, 273, 274] (by decide +kernel) (by decide +kernel)
set_option maxRecDepth 20000 in
theorem gL_same_X6_operand : GoodIn wsL_same (wsV RL 119 RX6 yX6_operand wsX6_operand) := goodIn_app (goodIn_of _ (by decide +kernel)) ggL_same_X6_operand
set_option maxRecDepth 20000 in
theorem ggL_same_X6_breakpoint : GoodIn wsL_same wsX6_breakpoint := goodIn_r _ [197, 6, 15, 188, 168, 4, 169, 19, 20, 21, 249, 250, 251, 252, 253, 254, 255, 256, 257, 258, 259, 260, 261] (by decide +kernel) (by decide +kernel)
set_option maxRecDepth 20000 in
theorem gL_same_X6_breakpoint : GoodIn wsL_same (wsV RL 122 RX6 yX6_breakpoint wsX6_breakpoint) := goodIn_app (goodIn_of _ (by decide +kernel)) ggL_same_X6_breakpoint
set_option maxRecDepth 20000 in
theorem ggL_same_X6_word : GoodIn wsL_same wsX6_word := goodIn_r _ [201, 6, 15, 202, 203, 4, 204, 19, 20, 21, 249, 250, 251, 252, 253, 254, 255, 256, 257, 258, 259, 260, 261] (by decide +kernel) (by decide +kernel)
set_option maxRecDepth 20000 in
theorem gL_same_X6_word : GoodIn wsL_same (wsV RL 125 RX6 yX6_word wsX6_word) := goodIn_app (goodIn_of _ (by decide +kernel)) ggL_same_X6_word
set_option maxRecDepth 20000 in
theorem ggL_same_X6_register : GoodIn wsL_same wsX6_register := goodIn_r _ [208, 15, 6, 209, 151, 4, 152, 19, 20, 21, 210, 211, 212, 249, 250, 251, 252, 253, 254, 255, 256, 257, 258, 259, 260, 261, 262, 263, 264, 265, 266, 267, 268, 269, 270, 271, 272] (by decide +kernel) (by decide +kernel)
set_option maxRecDepth 20000 in
theorem gL_same_X6_register : GoodIn wsL_same (wsV RL 95 RX6 yX6_register wsX6_register) := goodIn_app (goodIn_of _ (by decide +kernel)) ggL_same_X6_register
set_option maxRecDepth 20000 in
theorem ggL_same_X6_state : GoodIn wsL_same wsX6_state := goodIn_r _ [216, 6, 15, 209, 151, 4, 152, 19, 20, 21, 249, 250, 251, 252, 253, 254, 255, 256, 257, 258, 259, 260, 261, 262, 263, 264, 265, 266, 267, 268, 269, 270, 271, 272] (by decide +kernel) (by decide +kernel)
set_option maxRecDepth 20000 in
theorem gL_same_X6_state : GoodIn wsL_same (wsV RL 80 RX6 yX6_state wsX6_state) := goodIn_app (goodIn_of _ (by decide +kernel)) ggL_same_X6_state
set_option maxRecDepth 20000 in
theorem ggL_same_X6_programCounter : GoodIn wsL_same wsX6_programCounter := goodIn_r _ [220, 6, 15, 209, 151, 4, 152, 19, 20, 21, 249, 250, 251, 252, 253, 254, 255, 256, 257, 258, 259, 260, 261, 262, 263, 264, 265, 266, 267, 268, 269, 270, 271, 272] (by decide +kernel) (by decide +kernel)
