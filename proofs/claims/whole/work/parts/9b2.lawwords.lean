set_option maxRecDepth 20000 in
theorem ggL_law_X7_word : GoodIn wsL_law wsX7_word := goodIn_r _ [678, 86, 293, 304, 305, 5, 306, 842, 843, 844, 845, 846, 847, 848, 849, 850, 851, 852] (by decide +kernel) (by decide +kernel)
set_option maxRecDepth 20000 in
theorem gL_law_X7_word : GoodIn wsL_law (wsV RL 85 RX7 yX7_word wsX7_word) := goodIn_app (goodIn_of _ (by decide +kernel)) ggL_law_X7_word
set_option maxRecDepth 20000 in
theorem ggL_law_X6_operation : GoodIn wsL_law wsX6_operation := goodIn_r _ [682, 15, 97, 101, 102, 2, 103, 104, 105, 106, 838, 839, 840, 841, 853, 854, 855, 856, 857, 858, 859, 860, 861, 871, 872] (by decide +kernel) (by decide +kernel)
set_option maxRecDepth 20000 in
theorem gL_law_X6_operation : GoodIn wsL_law (wsV RL 86 RX6 yX6_operation wsX6_operation) := goodIn_app (goodIn_of _ (by decide +kernel)) ggL_law_X6_operation
set_option maxRecDepth 20000 in
theorem ggL_law_X7_operation : GoodIn wsL_law wsX7_operation := goodIn_r _ [686, 86, 293, 301, 302, 5, 303, 304, 305, 306, 842, 843, 844, 845, 846, 847, 848, 849, 850, 851, 852] (by decide +kernel) (by decide +kernel)
set_option maxRecDepth 20000 in
theorem gL_law_X7_operation : GoodIn wsL_law (wsV RL 89 RX7 yX7_operation wsX7_operation) := goodIn_app (goodIn_of _ (by decide +kernel)) ggL_law_X7_operation
set_option maxRecDepth 20000 in
theorem ggL_law_X6_operand : GoodIn wsL_law wsX6_operand := goodIn_r _ [690, 97, 379, 15, 101, 102, 2, 103, 104, 105, 106, 838, 839, 840, 841, 853, 854, 855, 856, 857, 858, 859, 860, 861, 871, 872] (by decide +kernel) (by decide +kernel)
set_option maxRecDepth 20000 in
theorem gL_law_X6_operand : GoodIn wsL_law (wsV RL 90 RX6 yX6_operand wsX6_operand) := goodIn_app (goodIn_of _ (by decide +kernel)) ggL_law_X6_operand
set_option maxRecDepth 20000 in
theorem ggL_law_X7_operand : GoodIn wsL_law wsX7_operand := goodIn_r _ [694, 293, 393, 86, 629, 301, 302, 5, 303, 304, 305, 306, 842, 843, 844, 845, 846, 847, 848, 849, 850, 851, 852] (by decide +kernel) (by decide +kernel)
set_option maxRecDepth 20000 in
theorem gL_law_X7_operand : GoodIn wsL_law (wsV RL 93 RX7 yX7_operand wsX7_operand) := goodIn_app (goodIn_of _ (by decide +kernel)) ggL_law_X7_operand
set_option maxRecDepth 20000 in
theorem ggL_law_X6_slot : GoodIn wsL_law wsX6_slot := goodIn_r _ [698, 15, 97, 420, 421, 2, 422, 104, 105, 106, 838, 839, 840, 841, 853, 854, 855, 856, 857, 858, 859, 860, 861] (by decide +kernel) (by decide +kernel)
set_option maxRecDepth 20000 in
theorem gL_law_X6_slot : GoodIn wsL_law (wsV RL 94 RX6 yX6_slot wsX6_slot) := goodIn_app (goodIn_of _ (by decide +kernel)) ggL_law_X6_slot
set_option maxRecDepth 20000 in
theorem ggL_law_X7_slot : GoodIn wsL_law wsX7_slot := goodIn_r _ [702, 86, 293, 304, 305, 5, 306, 842, 843, 844, 845, 846, 847, 848, 849, 850, 851, 852] (by decide +kernel) (by decide +kernel)
set_option maxRecDepth 20000 in
theorem gL_law_X7_slot : GoodIn wsL_law (wsV RL 97 RX7 yX7_slot wsX7_slot) := goodIn_app (goodIn_of _ (by decide +kernel)) ggL_law_X7_slot
set_option maxRecDepth 20000 in
theorem ggL_law_X6_setting : GoodIn wsL_law wsX6_setting := goodIn_r _ [706, 15, 97, 431, 432, 2, 433, 104, 105, 106, 838, 839, 840, 841, 853, 854, 855, 856, 857, 858, 859, 860, 861] (by decide +kernel) (by decide +kernel)
set_option maxRecDepth 20000 in
theorem gL_law_X6_setting : GoodIn wsL_law (wsV RL 98 RX6 yX6_setting wsX6_setting) := goodIn_app (goodIn_of _ (by decide +kernel)) ggL_law_X6_setting
set_option maxRecDepth 20000 in
theorem ggL_law_X7_setting : GoodIn wsL_law wsX7_setting := goodIn_r _ [710, 86, 293, 304, 305, 5, 306, 842, 843, 844, 845, 846, 847, 848, 849, 850, 851, 852] (by decide +kernel) (by decide +kernel)
set_option maxRecDepth 20000 in
theorem gL_law_X7_setting : GoodIn wsL_law (wsV RL 101 RX7 yX7_setting wsX7_setting) := goodIn_app (goodIn_of _ (by decide +kernel)) ggL_law_X7_setting
set_option maxRecDepth 20000 in
theorem ggL_law_X6_breakpoint : GoodIn wsL_law wsX6_breakpoint := goodIn_r _ [714, 15, 97, 101, 102, 2, 103, 104, 105, 106, 838, 839, 840, 841, 853, 854, 855, 856, 857, 858, 859, 860, 861] (by decide +kernel) (by decide +kernel)
set_option maxRecDepth 20000 in
theorem gL_law_X6_breakpoint : GoodIn wsL_law (wsV RL 102 RX6 yX6_breakpoint wsX6_breakpoint) := goodIn_app (goodIn_of _ (by decide +kernel)) ggL_law_X6_breakpoint
set_option maxRecDepth 20000 in
theorem ggL_law_X7_breakpoint : GoodIn wsL_law wsX7_breakpoint := goodIn_r _ [718, 86, 293, 301, 302, 5, 303, 304, 305, 306, 842, 843, 844, 845, 846, 847, 848, 849, 850, 851, 852] (by decide +kernel) (by decide +kernel)
set_option maxRecDepth 20000 in
theorem gL_law_X7_breakpoint : GoodIn wsL_law (wsV RL 105 RX7 yX7_breakpoint wsX7_breakpoint) := goodIn_app (goodIn_of _ (by decide +kernel)) ggL_law_X7_breakpoint
set_option maxRecDepth 20000 in
theorem ggL_law_X6_cycle : GoodIn wsL_law wsX6_cycle := goodIn_r _ [722, 15, 838, 839, 840, 841, 853, 854, 855, 856, 857, 858, 859, 860, 861] (by decide +kernel) (by decide +kernel)
set_option maxRecDepth 20000 in
theorem gL_law_X6_cycle : GoodIn wsL_law (wsV RL 106 RX6 yX6_cycle wsX6_cycle) := goodIn_app (goodIn_of _ (by decide +kernel)) ggL_law_X6_cycle
set_option maxRecDepth 20000 in
theorem ggL_law_X7_cycle : GoodIn wsL_law wsX7_cycle := goodIn_r _ [726, 86, 842, 843, 844, 845, 846, 847, 848, 849, 850, 851, 852] (by decide +kernel) (by decide +kernel)
set_option maxRecDepth 20000 in
theorem gL_law_X7_cycle : GoodIn wsL_law (wsV RL 109 RX7 yX7_cycle wsX7_cycle) := goodIn_app (goodIn_of _ (by decide +kernel)) ggL_law_X7_cycle
set_option maxRecDepth 20000 in
theorem ggL_law_X6_idle : GoodIn wsL_law wsX6_idle := goodIn_r _ [730, 15, 838, 839, 840, 841, 853, 854, 855, 856, 857, 858, 859, 860, 861] (by decide +kernel) (by decide +kernel)
set_option maxRecDepth 20000 in
theorem gL_law_X6_idle : GoodIn wsL_law (wsV RL 110 RX6 yX6_idle wsX6_idle) := goodIn_app (goodIn_of _ (by decide +kernel)) ggL_law_X6_idle
set_option maxRecDepth 20000 in
theorem ggL_law_X7_idle : GoodIn wsL_law wsX7_idle := goodIn_r _ [734, 86, 842, 843, 844, 845, 846, 847, 848, 849, 850, 851, 852] (by decide +kernel) (by decide +kernel)
set_option maxRecDepth 20000 in
theorem gL_law_X7_idle : GoodIn wsL_law (wsV RL 113 RX7 yX7_idle wsX7_idle) := goodIn_app (goodIn_of _ (by decide +kernel)) ggL_law_X7_idle
set_option maxRecDepth 20000 in
theorem ggL_law_X6_executed : GoodIn wsL_law wsX6_executed := goodIn_r _ [738, 15, 97, 348, 349, 2, 350, 104, 105, 106, 838, 839, 840, 841, 853, 854, 855, 856, 857, 858, 859, 860, 861, 876, 877, 878, 879, 880, 881, 882, 883, 884, 885, 886] (by decide +kernel) (by decide +kernel)
set_option maxRecDepth 20000 in
theorem gL_law_X6_executed : GoodIn wsL_law (wsV RL 114 RX6 yX6_executed wsX6_executed) := goodIn_app (goodIn_of _ (by decide +kernel)) ggL_law_X6_executed
set_option maxRecDepth 20000 in
theorem ggL_law_X7_executed : GoodIn wsL_law wsX7_executed := goodIn_r _ [742, 651, 652, 653, 5, 654, 86, 293, 360, 361, 362, 304, 305, 306, 90, 91, 92, 842, 843, 844, 845, 846, 847, 848, 849, 850, 851, 852] (by decide +kernel) (by decide +kernel)
set_option maxRecDepth 20000 in
theorem gL_law_X7_executed : GoodIn wsL_law (wsV RL 117 RX7 yX7_executed wsX7_executed) := goodIn_app (goodIn_of _ (by decide +kernel)) ggL_law_X7_executed
set_option maxRecDepth 20000 in
theorem ggL_law_X6_lent : GoodIn wsL_law wsX6_lent := goodIn_r _ [746, 15, 97, 348, 349, 2, 350, 104, 105, 106, 838, 839, 840, 841, 853, 854, 855, 856, 857, 858, 859, 860, 861, 876, 877, 878, 879, 880, 881, 882, 883, 884, 885, 886] (by decide +kernel) (by decide +kernel)
