set_option maxRecDepth 20000 in
theorem gL_law_X6_lent : GoodIn wsL_law (wsV RL 118 RX6 yX6_lent wsX6_lent) := goodIn_app (goodIn_of _ (by decide +kernel)) ggL_law_X6_lent
set_option maxRecDepth 20000 in
theorem ggL_law_X7_lent : GoodIn wsL_law wsX7_lent := goodIn_r _ [750, 651, 652, 653, 5, 654, 86, 293, 360, 361, 362, 304, 305, 306, 90, 91, 92, 842, 843, 844, 845, 846, 847, 848, 849, 850, 851, 852] (by decide +kernel) (by decide +kernel)
set_option maxRecDepth 20000 in
theorem gL_law_X7_lent : GoodIn wsL_law (wsV RL 121 RX7 yX7_lent wsX7_lent) := goodIn_app (goodIn_of _ (by decide +kernel)) ggL_law_X7_lent
set_option maxRecDepth 20000 in
theorem ggL_law_X6_starved : GoodIn wsL_law wsX6_starved := goodIn_r _ [754, 15, 97, 348, 349, 2, 350, 104, 105, 106, 838, 839, 840, 841, 853, 854, 855, 856, 857, 858, 859, 860, 861, 876, 877, 878, 879, 880, 881, 882, 883, 884, 885, 886] (by decide +kernel) (by decide +kernel)
set_option maxRecDepth 20000 in
theorem gL_law_X6_starved : GoodIn wsL_law (wsV RL 122 RX6 yX6_starved wsX6_starved) := goodIn_app (goodIn_of _ (by decide +kernel)) ggL_law_X6_starved
set_option maxRecDepth 20000 in
theorem ggL_law_X7_starved : GoodIn wsL_law wsX7_starved := goodIn_r _ [758, 651, 652, 653, 5, 654, 86, 293, 360, 361, 362, 304, 305, 306, 90, 91, 92, 842, 843, 844, 845, 846, 847, 848, 849, 850, 851, 852] (by decide +kernel) (by decide +kernel)
set_option maxRecDepth 20000 in
theorem gL_law_X7_starved : GoodIn wsL_law (wsV RL 125 RX7 yX7_starved wsX7_starved) := goodIn_app (goodIn_of _ (by decide +kernel)) ggL_law_X7_starved
set_option maxRecDepth 20000 in
theorem ggL_law_X6_trace : GoodIn wsL_law wsX6_trace := goodIn_r _ [762, 379, 15, 104, 105, 2, 106, 763, 764, 765, 42, 766, 287, 767, 286, 60, 838, 839, 840, 841, 853, 854, 855, 856, 857, 858, 859, 860, 861, 873, 874, 875] (by decide +kernel) (by decide +kernel)
set_option maxRecDepth 20000 in
theorem gL_law_X6_trace : GoodIn wsL_law (wsV RL 126 RX6 yX6_trace wsX6_trace) := goodIn_app (goodIn_of _ (by decide +kernel)) ggL_law_X6_trace
set_option maxRecDepth 20000 in
theorem ggL_law_X7_trace : GoodIn wsL_law wsX7_trace := goodIn_r _ [771, 393, 86, 629, 304, 305, 5, 306, 842, 843, 844, 845, 846, 847, 848, 849, 850, 851, 852] (by decide +kernel) (by decide +kernel)
set_option maxRecDepth 20000 in
theorem gL_law_X7_trace : GoodIn wsL_law (wsV RL 129 RX7 yX7_trace wsX7_trace) := goodIn_app (goodIn_of _ (by decide +kernel)) ggL_law_X7_trace
set_option maxRecDepth 20000 in
theorem ggL_law_X6_use : GoodIn wsL_law wsX6_use := goodIn_r _ [775, 15, 838, 839, 840, 841, 853, 854, 855, 856, 857, 858, 859, 860, 861] (by decide +kernel) (by decide +kernel)
set_option maxRecDepth 20000 in
theorem gL_law_X6_use : GoodIn wsL_law (wsV RL 130 RX6 yX6_use wsX6_use) := goodIn_app (goodIn_of _ (by decide +kernel)) ggL_law_X6_use
set_option maxRecDepth 20000 in
theorem ggL_law_X7_use : GoodIn wsL_law wsX7_use := goodIn_r _ [779, 86, 842, 843, 844, 845, 846, 847, 848, 849, 850, 851, 852] (by decide +kernel) (by decide +kernel)
set_option maxRecDepth 20000 in
theorem gL_law_X7_use : GoodIn wsL_law (wsV RL 134 RX7 yX7_use wsX7_use) := goodIn_app (goodIn_of _ (by decide +kernel)) ggL_law_X7_use
set_option maxRecDepth 20000 in
theorem ggL_law_X6_nextThread : GoodIn wsL_law wsX6_nextThread := goodIn_r _ [783, 15, 784, 467, 468, 14, 469, 39, 470, 471, 472, 473, 474, 30, 261, 475, 476, 477, 478, 479, 480, 481, 45, 482, 65, 271, 483, 484, 485, 486, 38, 487, 488, 489, 490, 491, 492, 493, 494, 495, 496, 838, 839, 840, 841, 853, 854, 855, 856, 857, 858, 859, 860, 861, 876, 877, 878, 879, 880, 881, 882, 883, 884, 885, 886] (by decide +kernel) (by decide +kernel)
set_option maxRecDepth 20000 in
theorem gL_law_X6_nextThread : GoodIn wsL_law (wsV RL 135 RX6 yX6_nextThread wsX6_nextThread) := goodIn_app (goodIn_of _ (by decide +kernel)) ggL_law_X6_nextThread
set_option maxRecDepth 20000 in
theorem ggL_law_X7_nextThread : GoodIn wsL_law wsX7_nextThread := goodIn_r _ [788, 629, 561, 562, 563, 5, 564, 87, 86, 565, 566, 567, 568, 90, 91, 92, 401, 402, 403, 404, 553, 554, 555, 556, 569, 570, 571, 572, 573, 574, 575, 576, 577, 578, 579, 580, 842, 843, 844, 845, 846, 847, 848, 849, 850, 851, 852] (by decide +kernel) (by decide +kernel)
set_option maxRecDepth 20000 in
theorem gL_law_X7_nextThread : GoodIn wsL_law (wsV RL 138 RX7 yX7_nextThread wsX7_nextThread) := goodIn_app (goodIn_of _ (by decide +kernel)) ggL_law_X7_nextThread
set_option maxRecDepth 20000 in
theorem ggL_law_X6_cyclesLeft : GoodIn wsL_law wsX6_cyclesLeft := goodIn_r _ [792, 15, 793, 794, 795, 2, 796, 16, 797, 254, 255, 14, 256, 30, 34, 36, 257, 258, 259, 260, 37, 38, 39, 43, 261, 262, 263, 264, 265, 45, 266, 64, 267, 65, 268, 269, 270, 271, 66, 272, 273, 274, 275, 276, 277, 278, 33, 279, 50, 280, 51, 281, 282, 283, 42, 284, 60, 285, 286, 287, 798, 799, 800, 801, 470, 458, 459, 460, 461, 497, 498, 499, 500, 501, 502, 503, 504, 479, 480, 481, 482, 505, 506, 507, 508, 475, 476, 477, 478, 466, 467, 468, 469, 471, 472, 473, 474, 483, 484, 485, 486, 487, 488, 489, 490, 491, 492, 493, 494, 495, 496, 509, 510, 511, 512, 513, 514, 515, 516, 517, 148, 149, 150, 349, 350, 104, 105, 106, 518, 519, 520, 521, 522, 523, 524, 525, 526, 152, 153, 527, 528, 529, 530, 102, 103, 531, 532, 533, 534, 535, 536, 537, 538, 539, 540, 541, 542, 543, 544, 838, 839, 840, 841, 853, 854, 855, 856, 857, 858, 859, 860, 861, 876, 877, 878, 879, 880, 881, 882, 883, 884, 885, 886, 871, 872, 873, 874, 875] (by decide +kernel) (by decide +kernel)
set_option maxRecDepth 20000 in
theorem gL_law_X6_cyclesLeft : GoodIn wsL_law (wsV RL 139 RX6 yX6_cyclesLeft wsX6_cyclesLeft) := goodIn_app (goodIn_of _ (by decide +kernel)) ggL_law_X6_cyclesLeft
set_option maxRecDepth 20000 in
theorem ggL_law_X7_cyclesLeft : GoodIn wsL_law wsX7_cyclesLeft := goodIn_r _ [805, 86, 806, 807, 808, 5, 809, 561, 562, 563, 564, 87, 810, 811, 812, 813, 629, 549, 550, 551, 552, 553, 554, 555, 556, 90, 91, 92, 581, 582, 583, 584, 565, 566, 567, 568, 401, 402, 403, 404, 569, 570, 571, 572, 573, 574, 575, 576, 585, 586, 587, 588, 589, 590, 591, 592, 593, 594, 595, 596, 304, 305, 306, 397, 398, 399, 400, 597, 598, 599, 600, 577, 578, 579, 580, 842, 843, 844, 845, 846, 847, 848, 849, 850, 851, 852] (by decide +kernel) (by decide +kernel)
set_option maxRecDepth 20000 in
theorem gL_law_X7_cyclesLeft : GoodIn wsL_law (wsV RL 142 RX7 yX7_cyclesLeft wsX7_cyclesLeft) := goodIn_app (goodIn_of _ (by decide +kernel)) ggL_law_X7_cyclesLeft
set_option maxRecDepth 20000 in
theorem ggL_law_X6_cyclesIf : GoodIn wsL_law wsX6_cyclesIf := goodIn_r _ [817, 379, 104, 105, 2, 106, 793, 794, 795, 796, 16, 15, 797, 254, 255, 14, 256, 30, 34, 36, 257, 258, 259, 260, 37, 38, 39, 43, 261, 262, 263, 264, 265, 45, 266, 64, 267, 65, 268, 269, 270, 271, 66, 272, 273, 274, 275, 276, 277, 278, 33, 279, 50, 280, 51, 281, 282, 283, 42, 284, 60, 285, 286, 287, 798, 799, 800, 801, 470, 458, 459, 460, 461, 497, 498, 499, 500, 501, 502, 503, 504, 479, 480, 481, 482, 505, 506, 507, 508, 475, 476, 477, 478, 466, 467, 468, 469, 471, 472, 473, 474, 483, 484, 485, 486, 487, 488, 489, 490, 491, 492, 493, 494, 495, 496, 509, 510, 511, 512, 513, 514, 515, 516, 517, 148, 149, 150, 349, 350, 518, 519, 520, 521, 522, 523, 524, 525, 526, 152, 153, 527, 528, 529, 530, 102, 103, 531, 532, 533, 534, 535, 536, 537, 538, 539, 540, 541, 542, 543, 544, 838, 839, 840, 841, 853, 854, 855, 856, 857, 858, 859, 860, 861, 876, 877, 878, 879, 880, 881, 882, 883, 884, 885, 886, 871, 872, 873, 874, 875] (by decide +kernel) (by decide +kernel)
set_option maxRecDepth 20000 in
theorem gL_law_X6_cyclesIf : GoodIn wsL_law (wsV RL 143 RX6 yX6_cyclesIf wsX6_cyclesIf) := goodIn_app (goodIn_of _ (by decide +kernel)) ggL_law_X6_cyclesIf
set_option maxRecDepth 20000 in
theorem ggL_law_X7_cyclesIf : GoodIn wsL_law wsX7_cyclesIf := goodIn_r _ [821, 393, 304, 305, 5, 306, 806, 807, 808, 809, 86, 561, 562, 563, 564, 87, 810, 811, 812, 813, 629, 549, 550, 551, 552, 553, 554, 555, 556, 90, 91, 92, 581, 582, 583, 584, 565, 566, 567, 568, 401, 402, 403, 404, 569, 570, 571, 572, 573, 574, 575, 576, 585, 586, 587, 588, 589, 590, 591, 592, 593, 594, 595, 596, 397, 398, 399, 400, 597, 598, 599, 600, 577, 578, 579, 580, 842, 843, 844, 845, 846, 847, 848, 849, 850, 851, 852] (by decide +kernel) (by decide +kernel)
set_option maxRecDepth 20000 in
theorem gL_law_X7_cyclesIf : GoodIn wsL_law (wsV RL 146 RX7 yX7_cyclesIf wsX7_cyclesIf) := goodIn_app (goodIn_of _ (by decide +kernel)) ggL_law_X7_cyclesIf
set_option maxRecDepth 20000 in
theorem ggL_law_X6_bestLend : GoodIn wsL_law wsX6_bestLend := goodIn_r _ [825, 98, 15, 793, 794, 795, 2, 796, 16, 797, 254, 255, 14, 256, 30, 34, 36, 257, 258, 259, 260, 37, 38, 39, 43, 261, 262, 263, 264, 265, 45, 266, 64, 267, 65, 268, 269, 270, 271, 66, 272, 273, 274, 275, 276, 277, 278, 33, 279, 50, 280, 51, 281, 282, 283, 42, 284, 60, 285, 286, 287, 798, 799, 800, 801, 470, 458, 459, 460, 461, 497, 498, 499, 500, 501, 502, 503, 504, 479, 480, 481, 482, 505, 506, 507, 508, 475, 476, 477, 478, 466, 467, 468, 469, 471, 472, 473, 474, 483, 484, 485, 486, 487, 488, 489, 490, 491, 492, 493, 494, 495, 496, 509, 510, 511, 512, 513, 514, 515, 516, 517, 148, 149, 150, 349, 350, 104, 105, 106, 518, 519, 520, 521, 522, 523, 524, 525, 526, 152, 153, 527, 528, 529, 530, 102, 103, 531, 532, 533, 534, 535, 536, 537, 538, 539, 540, 541, 542, 543, 544, 838, 839, 840, 841, 853, 854, 855, 856, 857, 858, 859, 860, 861, 876, 877, 878, 879, 880, 881, 882, 883, 884, 885, 886, 871, 872, 873, 874, 875] (by decide +kernel) (by decide +kernel)
set_option maxRecDepth 20000 in
theorem gL_law_X6_bestLend : GoodIn wsL_law (wsV RL 147 RX6 yX6_bestLend wsX6_bestLend) := goodIn_app (goodIn_of _ (by decide +kernel)) ggL_law_X6_bestLend
set_option maxRecDepth 20000 in
theorem ggL_law_X7_bestLend : GoodIn wsL_law wsX7_bestLend := goodIn_r _ [829, 629, 86, 806, 807, 808, 5, 809, 561, 562, 563, 564, 87, 810, 811, 812, 813, 549, 550, 551, 552, 553, 554, 555, 556, 90, 91, 92, 581, 582, 583, 584, 565, 566, 567, 568, 401, 402, 403, 404, 569, 570, 571, 572, 573, 574, 575, 576, 585, 586, 587, 588, 589, 590, 591, 592, 593, 594, 595, 596, 304, 305, 306, 397, 398, 399, 400, 597, 598, 599, 600, 577, 578, 579, 580, 842, 843, 844, 845, 846, 847, 848, 849, 850, 851, 852] (by decide +kernel) (by decide +kernel)
set_option maxRecDepth 20000 in
theorem gL_law_X7_bestLend : GoodIn wsL_law (wsV RL 150 RX7 yX7_bestLend wsX7_bestLend) := goodIn_app (goodIn_of _ (by decide +kernel)) ggL_law_X7_bestLend
set_option maxRecDepth 20000 in
theorem ggL_law_X6_finalWord : GoodIn wsL_law wsX6_finalWord := goodIn_r _ [833, 97, 15, 98, 16, 409, 410, 2, 411, 104, 105, 106, 793, 794, 795, 796, 797, 254, 255, 14, 256, 30, 34, 36, 257, 258, 259, 260, 37, 38, 39, 43, 261, 262, 263, 264, 265, 45, 266, 64, 267, 65, 268, 269, 270, 271, 66, 272, 273, 274, 275, 276, 277, 278, 33, 279, 50, 280, 51, 281, 282, 283, 42, 284, 60, 285, 286, 287, 798, 799, 800, 801, 470, 458, 459, 460, 461, 497, 498, 499, 500, 501, 502, 503, 504, 479, 480, 481, 482, 505, 506, 507, 508, 475, 476, 477, 478, 466, 467, 468, 469, 471, 472, 473, 474, 483, 484, 485, 486, 487, 488, 489, 490, 491, 492, 493, 494, 495, 496, 509, 510, 511, 512, 513, 514, 515, 516, 517, 148, 149, 150, 349, 350, 518, 519, 520, 521, 522, 523, 524, 525, 526, 152, 153, 527, 528, 529, 530, 102, 103, 531, 532, 533, 534, 535, 536, 537, 538, 539, 540, 541, 542, 543, 544, 838, 839, 840, 841, 853, 854, 855, 856, 857, 858, 859, 860, 861, 876, 877, 878, 879, 880, 881, 882, 883, 884, 885, 886, 871, 872, 873, 874, 875] (by decide +kernel) (by decide +kernel)
set_option maxRecDepth 20000 in
theorem gL_law_X6_finalWord : GoodIn wsL_law (wsV RL 151 RX6 yX6_finalWord wsX6_finalWord) := goodIn_app (goodIn_of _ (by decide +kernel)) ggL_law_X6_finalWord
set_option maxRecDepth 20000 in
theorem ggL_law_X7_finalWord : GoodIn wsL_law wsX7_finalWord := goodIn_r _ [837, 293, 86, 629, 304, 305, 5, 306, 561, 562, 563, 564, 87, 810, 811, 812, 813, 549, 550, 551, 552, 553, 554, 555, 556, 90, 91, 92, 581, 582, 583, 584, 565, 566, 567, 568, 401, 402, 403, 404, 569, 570, 571, 572, 573, 574, 575, 576, 585, 586, 587, 588, 589, 590, 591, 592, 593, 594, 595, 596, 397, 398, 399, 400, 597, 598, 599, 600, 577, 578, 579, 580, 842, 843, 844, 845, 846, 847, 848, 849, 850, 851, 852] (by decide +kernel) (by decide +kernel)
set_option maxRecDepth 20000 in
theorem gL_law_X7_finalWord : GoodIn wsL_law (wsV RL 154 RX7 yX7_finalWord wsX7_finalWord) := goodIn_app (goodIn_of _ (by decide +kernel)) ggL_law_X7_finalWord
