set_option maxRecDepth 20000 in
theorem ggL_refuses_X6_state : GoodIn wsL_refuses wsX6_state := goodIn_r _ [400, 17, 11, 232, 233, 9, 234, 21, 22, 23, 472, 473, 474, 475, 482, 483, 484, 485, 486, 487, 488, 489, 490, 496, 497, 498, 499, 500, 501, 502, 503, 504, 505, 506] (by decide +kernel) (by decide +kernel)
set_option maxRecDepth 20000 in
theorem gL_refuses_X6_state : GoodIn wsL_refuses (wsV RL 80 RX6 yX6_state wsX6_state) := goodIn_app (goodIn_of _ (by decide +kernel)) ggL_refuses_X6_state
set_option maxRecDepth 20000 in
theorem ggL_refuses_X6_programCounter : GoodIn wsL_refuses wsX6_programCounter := goodIn_r _ [404, 17, 11, 232, 233, 9, 234, 21, 22, 23, 472, 473, 474, 475, 482, 483, 484, 485, 486, 487, 488, 489, 490, 496, 497, 498, 499, 500, 501, 502, 503, 504, 505, 506] (by decide +kernel) (by decide +kernel)
set_option maxRecDepth 20000 in
theorem gL_refuses_X6_programCounter : GoodIn wsL_refuses (wsV RL 86 RX6 yX6_programCounter wsX6_programCounter) := goodIn_app (goodIn_of _ (by decide +kernel)) ggL_refuses_X6_programCounter
set_option maxRecDepth 20000 in
theorem ggL_refuses_X6_register : GoodIn wsL_refuses wsX6_register := goodIn_r _ [408, 11, 17, 232, 233, 9, 234, 21, 22, 23, 256, 257, 258, 472, 473, 474, 475, 482, 483, 484, 485, 486, 487, 488, 489, 490, 496, 497, 498, 499, 500, 501, 502, 503, 504, 505, 506] (by decide +kernel) (by decide +kernel)
set_option maxRecDepth 20000 in
theorem gL_refuses_X6_register : GoodIn wsL_refuses (wsV RL 95 RX6 yX6_register wsX6_register) := goodIn_app (goodIn_of _ (by decide +kernel)) ggL_refuses_X6_register
set_option maxRecDepth 20000 in
theorem ggL_refuses_X6_word : GoodIn wsL_refuses wsX6_word := goodIn_r _ [412, 17, 11, 269, 270, 9, 271, 21, 22, 23, 472, 473, 474, 475, 482, 483, 484, 485, 486, 487, 488, 489, 490] (by decide +kernel) (by decide +kernel)
set_option maxRecDepth 20000 in
theorem gL_refuses_X6_word : GoodIn wsL_refuses (wsV RL 125 RX6 yX6_word wsX6_word) := goodIn_app (goodIn_of _ (by decide +kernel)) ggL_refuses_X6_word
set_option maxRecDepth 20000 in
theorem ggL_refuses_X6_operation : GoodIn wsL_refuses wsX6_operation := goodIn_r _ [416, 17, 11, 18, 19, 9, 20, 21, 22, 23, 472, 473, 474, 475, 482, 483, 484, 485, 486, 487, 488, 489, 490, 491, 492] (by decide +kernel) (by decide +kernel)
set_option maxRecDepth 20000 in
theorem gL_refuses_X6_operation : GoodIn wsL_refuses (wsV RL 116 RX6 yX6_operation wsX6_operation) := goodIn_app (goodIn_of _ (by decide +kernel)) ggL_refuses_X6_operation
set_option maxRecDepth 20000 in
theorem ggL_refuses_X6_operand : GoodIn wsL_refuses wsX6_operand := goodIn_r _ [420, 11, 255, 17, 18, 19, 9, 20, 21, 22, 23, 472, 473, 474, 475, 482, 483, 484, 485, 486, 487, 488, 489, 490, 491, 492] (by decide +kernel) (by decide +kernel)
set_option maxRecDepth 20000 in
theorem gL_refuses_X6_operand : GoodIn wsL_refuses (wsV RL 119 RX6 yX6_operand wsX6_operand) := goodIn_app (goodIn_of _ (by decide +kernel)) ggL_refuses_X6_operand
set_option maxRecDepth 20000 in
theorem ggL_refuses_X6_slot : GoodIn wsL_refuses wsX6_slot := goodIn_r _ [424, 17, 11, 276, 277, 9, 278, 21, 22, 23, 472, 473, 474, 475, 482, 483, 484, 485, 486, 487, 488, 489, 490] (by decide +kernel) (by decide +kernel)
set_option maxRecDepth 20000 in
theorem gL_refuses_X6_slot : GoodIn wsL_refuses (wsV RL 113 RX6 yX6_slot wsX6_slot) := goodIn_app (goodIn_of _ (by decide +kernel)) ggL_refuses_X6_slot
set_option maxRecDepth 20000 in
theorem ggL_refuses_X6_setting : GoodIn wsL_refuses wsX6_setting := goodIn_r _ [428, 17, 11, 283, 284, 9, 285, 21, 22, 23, 472, 473, 474, 475, 482, 483, 484, 485, 486, 487, 488, 489, 490] (by decide +kernel) (by decide +kernel)
set_option maxRecDepth 20000 in
theorem gL_refuses_X6_setting : GoodIn wsL_refuses (wsV RL 77 RX6 yX6_setting wsX6_setting) := goodIn_app (goodIn_of _ (by decide +kernel)) ggL_refuses_X6_setting
set_option maxRecDepth 20000 in
theorem ggL_refuses_X6_breakpoint : GoodIn wsL_refuses wsX6_breakpoint := goodIn_r _ [432, 17, 11, 18, 19, 9, 20, 21, 22, 23, 472, 473, 474, 475, 482, 483, 484, 485, 486, 487, 488, 489, 490] (by decide +kernel) (by decide +kernel)
set_option maxRecDepth 20000 in
theorem gL_refuses_X6_breakpoint : GoodIn wsL_refuses (wsV RL 122 RX6 yX6_breakpoint wsX6_breakpoint) := goodIn_app (goodIn_of _ (by decide +kernel)) ggL_refuses_X6_breakpoint
set_option maxRecDepth 20000 in
theorem ggL_refuses_X6_executed : GoodIn wsL_refuses wsX6_executed := goodIn_r _ [436, 17, 11, 232, 233, 9, 234, 21, 22, 23, 472, 473, 474, 475, 482, 483, 484, 485, 486, 487, 488, 489, 490, 496, 497, 498, 499, 500, 501, 502, 503, 504, 505, 506] (by decide +kernel) (by decide +kernel)
set_option maxRecDepth 20000 in
theorem gL_refuses_X6_executed : GoodIn wsL_refuses (wsV RL 83 RX6 yX6_executed wsX6_executed) := goodIn_app (goodIn_of _ (by decide +kernel)) ggL_refuses_X6_executed
set_option maxRecDepth 20000 in
theorem ggL_refuses_X6_lent : GoodIn wsL_refuses wsX6_lent := goodIn_r _ [440, 17, 11, 232, 233, 9, 234, 21, 22, 23, 472, 473, 474, 475, 482, 483, 484, 485, 486, 487, 488, 489, 490, 496, 497, 498, 499, 500, 501, 502, 503, 504, 505, 506] (by decide +kernel) (by decide +kernel)
set_option maxRecDepth 20000 in
theorem gL_refuses_X6_lent : GoodIn wsL_refuses (wsV RL 89 RX6 yX6_lent wsX6_lent) := goodIn_app (goodIn_of _ (by decide +kernel)) ggL_refuses_X6_lent
