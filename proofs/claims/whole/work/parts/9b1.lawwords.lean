set_option maxRecDepth 20000 in
theorem gL_law_X7_setBreakpoint : GoodIn wsL_law (wsV RL 48 RX7 yX7_setBreakpoint wsX7_setBreakpoint) := goodIn_app (goodIn_of _ (by decide +kernel)) ggL_law_X7_setBreakpoint
set_option maxRecDepth 20000 in
theorem ggL_law_X6_run : GoodIn wsL_law wsX6_run := goodIn_r _ [453, 379, 20, 15, 104, 105, 2, 106, 246, 247, 248, 19, 249, 72, 250, 251, 252, 152, 149, 153, 253, 254, 255, 14, 256, 30, 34, 36, 257, 258, 259, 260, 37, 38, 39, 43, 261, 262, 263, 264, 265, 45, 266, 64, 267, 65, 268, 269, 270, 271, 66, 272, 273, 274, 275, 276, 277, 278, 33, 279, 50, 280, 51, 281, 282, 283, 42, 284, 60, 285, 286, 287, 454, 455, 456, 457, 458, 459, 460, 461, 462, 463, 464, 465, 466, 467, 468, 469, 470, 471, 472, 473, 474, 475, 476, 477, 478, 479, 480, 481, 482, 483, 484, 485, 486, 487, 488, 489, 490, 491, 492, 493, 494, 495, 496, 349, 350, 102, 103, 497, 498, 499, 500, 501, 502, 503, 504, 505, 506, 507, 508, 509, 510, 511, 512, 513, 514, 515, 516, 517, 148, 150, 518, 519, 520, 521, 522, 523, 524, 525, 526, 527, 528, 529, 530, 531, 532, 533, 534, 535, 536, 537, 538, 539, 540, 541, 542, 543, 544, 838, 839, 840, 841, 862, 863, 864, 853, 854, 855, 856, 857, 858, 859, 860, 861, 876, 877, 878, 879, 880, 881, 882, 883, 884, 885, 886, 871, 872, 873, 874, 875] (by decide +kernel) (by decide +kernel)
set_option maxRecDepth 20000 in
theorem gL_law_X6_run : GoodIn wsL_law (wsV RL 49 RX6 yX6_run wsX6_run) := goodIn_app (goodIn_of _ (by decide +kernel)) ggL_law_X6_run
set_option maxRecDepth 20000 in
theorem ggL_law_X7_run : GoodIn wsL_law wsX7_run := goodIn_r _ [548, 393, 304, 305, 5, 306, 339, 340, 341, 342, 343, 88, 86, 549, 550, 551, 552, 553, 554, 555, 556, 90, 91, 92, 557, 558, 559, 560, 561, 562, 563, 564, 87, 565, 566, 567, 568, 401, 402, 403, 404, 569, 570, 571, 572, 573, 574, 575, 576, 577, 578, 579, 580, 581, 582, 583, 584, 585, 586, 587, 588, 589, 590, 591, 592, 593, 594, 595, 596, 397, 398, 399, 400, 597, 598, 599, 600, 842, 843, 844, 845, 846, 847, 848, 849, 850, 851, 852] (by decide +kernel) (by decide +kernel)
set_option maxRecDepth 20000 in
theorem gL_law_X7_run : GoodIn wsL_law (wsV RL 52 RX7 yX7_run wsX7_run) := goodIn_app (goodIn_of _ (by decide +kernel)) ggL_law_X7_run
set_option maxRecDepth 20000 in
theorem ggL_law_X6_append : GoodIn wsL_law wsX6_append := goodIn_r _ [604, 379, 24, 100, 104, 105, 2, 106, 605, 606, 607, 23, 608, 113, 78, 838, 839, 840, 841, 865, 866, 867, 868, 869, 870] (by decide +kernel) (by decide +kernel)
set_option maxRecDepth 20000 in
theorem gL_law_X6_append : GoodIn wsL_law (wsV RL 53 RX6 yX6_append wsX6_append) := goodIn_app (goodIn_of _ (by decide +kernel)) ggL_law_X6_append
set_option maxRecDepth 20000 in
theorem ggL_law_X7_append : GoodIn wsL_law wsX7_append := goodIn_r _ [612, 393, 295, 296, 89, 304, 305, 5, 306, 842, 843, 844, 845, 846, 847, 848, 849, 850, 851, 852] (by decide +kernel) (by decide +kernel)
set_option maxRecDepth 20000 in
theorem gL_law_X7_append : GoodIn wsL_law (wsV RL 56 RX7 yX7_append wsX7_append) := goodIn_app (goodIn_of _ (by decide +kernel)) ggL_law_X7_append
set_option maxRecDepth 20000 in
theorem ggL_law_X6_clearText : GoodIn wsL_law wsX6_clearText := goodIn_r _ [616, 24, 838, 839, 840, 841, 865, 866, 867, 868, 869, 870] (by decide +kernel) (by decide +kernel)
set_option maxRecDepth 20000 in
theorem gL_law_X6_clearText : GoodIn wsL_law (wsV RL 57 RX6 yX6_clearText wsX6_clearText) := goodIn_app (goodIn_of _ (by decide +kernel)) ggL_law_X6_clearText
set_option maxRecDepth 20000 in
theorem ggL_law_X7_clearText : GoodIn wsL_law wsX7_clearText := goodIn_r _ [620, 295, 842, 843, 844, 845, 846, 847, 848, 849, 850, 851, 852] (by decide +kernel) (by decide +kernel)
set_option maxRecDepth 20000 in
theorem gL_law_X7_clearText : GoodIn wsL_law (wsV RL 61 RX7 yX7_clearText wsX7_clearText) := goodIn_app (goodIn_of _ (by decide +kernel)) ggL_law_X7_clearText
set_option maxRecDepth 20000 in
theorem ggL_law_X6_fault : GoodIn wsL_law wsX6_fault := goodIn_r _ [624, 24, 107, 108, 109, 23, 110, 111, 112, 113, 114, 115, 116, 117, 118, 78, 119, 120, 121, 122, 123, 124, 125, 126, 127, 128, 129, 130, 131, 132, 133, 134, 135, 136, 137, 138, 139, 140, 141, 142, 143, 144, 145, 146, 147, 148, 149, 150, 151, 152, 153, 154, 155, 156, 157, 158, 159, 160, 161, 162, 163, 164, 165, 166, 167, 168, 169, 170, 171, 172, 173, 174, 175, 176, 177, 178, 179, 180, 181, 182, 183, 184, 185, 186, 187, 188, 189, 190, 191, 192, 193, 194, 195, 196, 197, 198, 199, 200, 201, 202, 203, 204, 205, 206, 207, 208, 209, 210, 211, 80, 212, 213, 214, 215, 216, 217, 218, 219, 220, 221, 222, 223, 224, 105, 2, 106, 225, 226, 227, 228, 229, 230, 231, 232, 233, 234, 235, 236, 237, 238, 239, 240, 241, 242, 243, 244, 245, 838, 839, 840, 841, 865, 866, 867, 868, 869, 870, 871, 872] (by decide +kernel) (by decide +kernel)
set_option maxRecDepth 20000 in
theorem gL_law_X6_fault : GoodIn wsL_law (wsV RL 62 RX6 yX6_fault wsX6_fault) := goodIn_app (goodIn_of _ (by decide +kernel)) ggL_law_X6_fault
set_option maxRecDepth 20000 in
theorem ggL_law_X7_fault : GoodIn wsL_law wsX7_fault := goodIn_r _ [628, 297, 629, 307, 308, 309, 5, 310, 311, 295, 312, 313, 314, 315, 298, 299, 300, 316, 317, 318, 319, 89, 320, 321, 322, 323, 324, 325, 326, 327, 328, 329, 330, 304, 305, 306, 331, 332, 333, 334, 335, 336, 337, 338, 842, 843, 844, 845, 846, 847, 848, 849, 850, 851, 852] (by decide +kernel) (by decide +kernel)
set_option maxRecDepth 20000 in
theorem gL_law_X7_fault : GoodIn wsL_law (wsV RL 65 RX7 yX7_fault wsX7_fault) := goodIn_app (goodIn_of _ (by decide +kernel)) ggL_law_X7_fault
set_option maxRecDepth 20000 in
theorem ggL_law_X6_undo : GoodIn wsL_law wsX6_undo := goodIn_r _ [633, 20, 15, 634, 635, 636, 19, 637, 251, 638, 250, 72, 253, 254, 255, 14, 256, 30, 34, 36, 257, 258, 259, 260, 37, 38, 39, 43, 261, 262, 263, 264, 265, 45, 266, 64, 267, 65, 268, 269, 270, 271, 66, 272, 273, 274, 275, 276, 277, 278, 33, 279, 50, 280, 51, 281, 282, 283, 42, 284, 60, 285, 286, 287, 838, 839, 840, 841, 862, 863, 864, 853, 854, 855, 856, 857, 858, 859, 860, 861, 876, 877, 878, 879, 880, 881, 882, 883, 884, 885, 886, 871, 872, 873, 874, 875] (by decide +kernel) (by decide +kernel)
set_option maxRecDepth 20000 in
theorem gL_law_X6_undo : GoodIn wsL_law (wsV RL 66 RX6 yX6_undo wsX6_undo) := goodIn_app (goodIn_of _ (by decide +kernel)) ggL_law_X6_undo
set_option maxRecDepth 20000 in
theorem ggL_law_X7_undo : GoodIn wsL_law wsX7_undo := goodIn_r _ [642, 343, 629, 86, 88, 842, 843, 844, 845, 846, 847, 848, 849, 850, 851, 852] (by decide +kernel) (by decide +kernel)
set_option maxRecDepth 20000 in
theorem gL_law_X7_undo : GoodIn wsL_law (wsV RL 69 RX7 yX7_undo wsX7_undo) := goodIn_app (goodIn_of _ (by decide +kernel)) ggL_law_X7_undo
set_option maxRecDepth 20000 in
theorem ggL_law_X6_state : GoodIn wsL_law wsX6_state := goodIn_r _ [646, 15, 97, 348, 349, 2, 350, 104, 105, 106, 838, 839, 840, 841, 853, 854, 855, 856, 857, 858, 859, 860, 861, 876, 877, 878, 879, 880, 881, 882, 883, 884, 885, 886] (by decide +kernel) (by decide +kernel)
set_option maxRecDepth 20000 in
theorem gL_law_X6_state : GoodIn wsL_law (wsV RL 70 RX6 yX6_state wsX6_state) := goodIn_app (goodIn_of _ (by decide +kernel)) ggL_law_X6_state
set_option maxRecDepth 20000 in
theorem ggL_law_X7_state : GoodIn wsL_law wsX7_state := goodIn_r _ [650, 651, 652, 653, 5, 654, 86, 293, 360, 361, 362, 304, 305, 306, 90, 91, 92, 842, 843, 844, 845, 846, 847, 848, 849, 850, 851, 852] (by decide +kernel) (by decide +kernel)
set_option maxRecDepth 20000 in
theorem gL_law_X7_state : GoodIn wsL_law (wsV RL 73 RX7 yX7_state wsX7_state) := goodIn_app (goodIn_of _ (by decide +kernel)) ggL_law_X7_state
set_option maxRecDepth 20000 in
theorem ggL_law_X6_programCounter : GoodIn wsL_law wsX6_programCounter := goodIn_r _ [658, 15, 97, 348, 349, 2, 350, 104, 105, 106, 838, 839, 840, 841, 853, 854, 855, 856, 857, 858, 859, 860, 861, 876, 877, 878, 879, 880, 881, 882, 883, 884, 885, 886] (by decide +kernel) (by decide +kernel)
set_option maxRecDepth 20000 in
theorem gL_law_X6_programCounter : GoodIn wsL_law (wsV RL 74 RX6 yX6_programCounter wsX6_programCounter) := goodIn_app (goodIn_of _ (by decide +kernel)) ggL_law_X6_programCounter
set_option maxRecDepth 20000 in
theorem ggL_law_X7_programCounter : GoodIn wsL_law wsX7_programCounter := goodIn_r _ [662, 651, 652, 653, 5, 654, 86, 293, 360, 361, 362, 304, 305, 306, 90, 91, 92, 842, 843, 844, 845, 846, 847, 848, 849, 850, 851, 852] (by decide +kernel) (by decide +kernel)
set_option maxRecDepth 20000 in
theorem gL_law_X7_programCounter : GoodIn wsL_law (wsV RL 77 RX7 yX7_programCounter wsX7_programCounter) := goodIn_app (goodIn_of _ (by decide +kernel)) ggL_law_X7_programCounter
set_option maxRecDepth 20000 in
theorem ggL_law_X6_register : GoodIn wsL_law wsX6_register := goodIn_r _ [666, 97, 15, 348, 349, 2, 350, 104, 105, 106, 380, 381, 382, 838, 839, 840, 841, 853, 854, 855, 856, 857, 858, 859, 860, 861, 876, 877, 878, 879, 880, 881, 882, 883, 884, 885, 886] (by decide +kernel) (by decide +kernel)
set_option maxRecDepth 20000 in
theorem gL_law_X6_register : GoodIn wsL_law (wsV RL 78 RX6 yX6_register wsX6_register) := goodIn_app (goodIn_of _ (by decide +kernel)) ggL_law_X6_register
set_option maxRecDepth 20000 in
theorem ggL_law_X7_register : GoodIn wsL_law wsX7_register := goodIn_r _ [670, 293, 360, 361, 5, 362, 304, 305, 306, 397, 398, 399, 400, 86, 90, 91, 92, 842, 843, 844, 845, 846, 847, 848, 849, 850, 851, 852] (by decide +kernel) (by decide +kernel)
set_option maxRecDepth 20000 in
theorem gL_law_X7_register : GoodIn wsL_law (wsV RL 81 RX7 yX7_register wsX7_register) := goodIn_app (goodIn_of _ (by decide +kernel)) ggL_law_X7_register
set_option maxRecDepth 20000 in
theorem ggL_law_X6_word : GoodIn wsL_law wsX6_word := goodIn_r _ [674, 15, 97, 409, 410, 2, 411, 104, 105, 106, 838, 839, 840, 841, 853, 854, 855, 856, 857, 858, 859, 860, 861] (by decide +kernel) (by decide +kernel)
set_option maxRecDepth 20000 in
theorem gL_law_X6_word : GoodIn wsL_law (wsV RL 82 RX6 yX6_word wsX6_word) := goodIn_app (goodIn_of _ (by decide +kernel)) ggL_law_X6_word
