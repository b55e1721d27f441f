set_option maxRecDepth 20000 in
theorem ggL_hangs_X6_state : GoodIn wsL_hangs wsX6_state := goodIn_r _ [27, 8, 17, 28, 29, 6, 30, 21, 22, 23, 248, 249, 250, 251, 252, 253, 254, 255, 256, 257, 258, 259, 260, 261, 262, 263, 264, 265, 266, 267, 268, 269, 270, 271] (by decide +kernel) (by decide +kernel)
set_option maxRecDepth 20000 in
theorem gL_hangs_X6_state : GoodIn wsL_hangs (wsV RL 80 RX6 yX6_state wsX6_state) := goodIn_app (goodIn_of _ (by decide +kernel)) ggL_hangs_X6_state
set_option maxRecDepth 20000 in
theorem ggL_hangs_X6_executed : GoodIn wsL_hangs wsX6_executed := goodIn_r _ [34, 8, 17, 28, 29, 6, 30, 21, 22, 23, 248, 249, 250, 251, 252, 253, 254, 255, 256, 257, 258, 259, 260, 261, 262, 263, 264, 265, 266, 267, 268, 269, 270, 271] (by decide +kernel) (by decide +kernel)
set_option maxRecDepth 20000 in
theorem gL_hangs_X6_executed : GoodIn wsL_hangs (wsV RL 83 RX6 yX6_executed wsX6_executed) := goodIn_app (goodIn_of _ (by decide +kernel)) ggL_hangs_X6_executed
set_option maxRecDepth 20000 in
theorem ggL_hangs_X6_programCounter : GoodIn wsL_hangs wsX6_programCounter := goodIn_r _ [38, 8, 17, 28, 29, 6, 30, 21, 22, 23, 248, 249, 250, 251, 252, 253, 254, 255, 256, 257, 258, 259, 260, 261, 262, 263, 264, 265, 266, 267, 268, 269, 270, 271] (by decide +kernel) (by decide +kernel)
set_option maxRecDepth 20000 in
theorem gL_hangs_X6_programCounter : GoodIn wsL_hangs (wsV RL 86 RX6 yX6_programCounter wsX6_programCounter) := goodIn_app (goodIn_of _ (by decide +kernel)) ggL_hangs_X6_programCounter
set_option maxRecDepth 20000 in
theorem ggL_hangs_X6_lent : GoodIn wsL_hangs wsX6_lent := goodIn_r _ [42, 8, 17, 28, 29, 6, 30, 21, 22, 23, 248, 249, 250, 251, 252, 253, 254, 255, 256, 257, 258, 259, 260, 261, 262, 263, 264, 265, 266, 267, 268, 269, 270, 271] (by decide +kernel) (by decide +kernel)
set_option maxRecDepth 20000 in
theorem gL_hangs_X6_lent : GoodIn wsL_hangs (wsV RL 89 RX6 yX6_lent wsX6_lent) := goodIn_app (goodIn_of _ (by decide +kernel)) ggL_hangs_X6_lent
set_option maxRecDepth 20000 in
theorem ggL_hangs_X6_starved : GoodIn wsL_hangs wsX6_starved := goodIn_r _ [46, 8, 17, 28, 29, 6, 30, 21, 22, 23, 248, 249, 250, 251, 252, 253, 254, 255, 256, 257, 258, 259, 260, 261, 262, 263, 264, 265, 266, 267, 268, 269, 270, 271] (by decide +kernel) (by decide +kernel)
set_option maxRecDepth 20000 in
theorem gL_hangs_X6_starved : GoodIn wsL_hangs (wsV RL 92 RX6 yX6_starved wsX6_starved) := goodIn_app (goodIn_of _ (by decide +kernel)) ggL_hangs_X6_starved
set_option maxRecDepth 20000 in
theorem ggL_hangs_X6_register : GoodIn wsL_hangs wsX6_register := goodIn_r _ [50, 17, 8, 28, 29, 6, 30, 21, 22, 23, 51, 52, 53, 248, 249, 250, 251, 252, 253, 254, 255, 256, 257, 258, 259, 260, 261, 262, 263, 264, 265, 266, 267, 268, 269, 270, 271] (by decide +kernel) (by decide +kernel)
set_option maxRecDepth 20000 in
theorem gL_hangs_X6_register : GoodIn wsL_hangs (wsV RL 95 RX6 yX6_register wsX6_register) := goodIn_app (goodIn_of _ (by decide +kernel)) ggL_hangs_X6_register
set_option maxRecDepth 20000 in
theorem ggL_hangs_X6_trace : GoodIn wsL_hangs wsX6_trace := goodIn_r _ [57, 58, 8, 21, 22, 6, 23, 59, 60, 61, 62, 63, 64, 65, 66, 67, 248, 249, 250, 251, 252, 253, 254, 255, 256, 257, 258, 259, 260, 272, 273, 274] (by decide +kernel) (by decide +kernel)
set_option maxRecDepth 20000 in
theorem gL_hangs_X6_trace : GoodIn wsL_hangs (wsV RL 99 RX6 yX6_trace wsX6_trace) := goodIn_app (goodIn_of _ (by decide +kernel)) ggL_hangs_X6_trace
set_option maxRecDepth 20000 in
theorem ggL_hangs_X6_nextThread : GoodIn wsL_hangs wsX6_nextThread := goodIn_r _ [71, 8, 72, 73, 74, 75, 76, 77, 78, 79, 80, 81, 82, 83, 84, 85, 86, 87, 88, 89, 90, 91, 92, 93, 94, 95, 96, 97, 98, 99, 100, 101, 102, 103, 104, 105, 106, 107, 108, 109, 110, 248, 249, 250, 251, 252, 253, 254, 255, 256, 257, 258, 259, 260, 261, 262, 263, 264, 265, 266, 267, 268, 269, 270, 271] (by decide +kernel) (by decide +kernel)
set_option maxRecDepth 20000 in
theorem gL_hangs_X6_nextThread : GoodIn wsL_hangs (wsV RL 103 RX6 yX6_nextThread wsX6_nextThread) := goodIn_app (goodIn_of _ (by decide +kernel)) ggL_hangs_X6_nextThread
set_option maxRecDepth 20000 in
theorem ggL_hangs_X6_cyclesLeft : GoodIn wsL_hangs wsX6_cyclesLeft := goodIn_r _ [114, 8, 115, 116, 117, 6, 118, 119, 120, 121, 122, 75, 123, 83, 124, 125, 126, 127, 128, 129, 130, 100, 77, 131, 84, 132, 133, 134, 135, 92, 136, 137, 138, 94, 139, 140, 141, 95, 142, 143, 144, 145, 146, 147, 148, 149, 150, 151, 152, 153, 154, 155, 156, 157, 62, 158, 67, 159, 66, 64, 160, 161, 162, 163, 78, 164, 165, 166, 167, 168, 169, 170, 171, 172, 173, 174, 175, 89, 90, 91, 93, 176, 177, 178, 179, 85, 86, 87, 88, 180, 73, 74, 76, 79, 80, 81, 82, 96, 97, 98, 99, 101, 102, 103, 104, 105, 106, 107, 108, 109, 110, 181, 182, 183, 184, 185, 186, 187, 188, 189, 190, 191, 192, 29, 30, 21, 22, 23, 193, 194, 195, 196, 197, 198, 199, 200, 201, 202, 203, 204, 205, 206, 207, 208, 209, 210, 211, 212, 213, 214, 215, 216, 217, 218, 219, 220, 221, 222, 223, 248, 249, 250, 251, 252, 253, 254, 255, 256, 257, 258, 259, 260, 261, 262, 263, 264, 265, 266, 267, 268, 269, 270, 271, 275, 276, 272, 273, 274] (by decide +kernel) (by decide +kernel)
set_option maxRecDepth 20000 in
theorem gL_hangs_X6_cyclesLeft : GoodIn wsL_hangs (wsV RL 106 RX6 yX6_cyclesLeft wsX6_cyclesLeft) := goodIn_app (goodIn_of _ (by decide +kernel)) ggL_hangs_X6_cyclesLeft
set_option maxRecDepth 20000 in
theorem ggL_hangs_X6_use : GoodIn wsL_hangs wsX6_use := goodIn_r _ [227, 8, 248, 249, 250, 251, 252, 253, 254, 255, 256, 257, 258, 259, 260] (by decide +kernel) (by decide +kernel)
set_option maxRecDepth 20000 in
theorem gL_hangs_X6_use : GoodIn wsL_hangs (wsV RL 109 RX6 yX6_use wsX6_use) := goodIn_app (goodIn_of _ (by decide +kernel)) ggL_hangs_X6_use
set_option maxRecDepth 20000 in
theorem ggL_hangs_X6_slot : GoodIn wsL_hangs wsX6_slot := goodIn_r _ [231, 8, 17, 232, 233, 6, 234, 21, 22, 23, 248, 249, 250, 251, 252, 253, 254, 255, 256, 257, 258, 259, 260] (by decide +kernel) (by decide +kernel)
set_option maxRecDepth 20000 in
theorem gL_hangs_X6_slot : GoodIn wsL_hangs (wsV RL 113 RX6 yX6_slot wsX6_slot) := goodIn_app (goodIn_of _ (by decide +kernel)) ggL_hangs_X6_slot
