set_option maxRecDepth 20000 in
theorem ggL_law_X6_init : GoodIn wsL_law wsX6_init := goodIn_r _ [8, 9, 10, 11, 12, 13, 14, 15, 16, 17, 18, 19, 20, 21, 22, 23, 24, 25, 26, 27, 28, 29, 30, 31, 32, 33, 34, 35, 36, 37, 38, 39, 40, 41, 42, 43, 44, 45, 46, 47, 48, 49, 50, 51, 52, 53, 54, 55, 56, 57, 58, 59, 60, 61, 62, 63, 64, 65, 66, 67, 68, 69, 70, 71, 72, 73, 74, 75, 76, 77, 78, 79, 80, 81, 853, 854, 855, 856, 857, 858, 859, 860, 861, 838, 839, 840, 841, 862, 863, 864, 865, 866, 867, 868, 869, 870, 871, 872, 873, 874, 875, 876, 877, 878, 879, 880, 881, 882, 883, 884, 885, 886] (by decide +kernel) (by decide +kernel)
set_option maxRecDepth 20000 in
theorem gL_law_X6_init : GoodIn wsL_law (wsX6_init) := ggL_law_X6_init
set_option maxRecDepth 20000 in
theorem ggL_law_X7_init : GoodIn wsL_law wsX7_init := goodIn_r _ [84, 85, 10, 11, 35, 86, 87, 88, 89, 90, 91, 5, 92, 842, 843, 844, 845, 846, 847, 848, 849, 850, 851, 852] (by decide +kernel) (by decide +kernel)
set_option maxRecDepth 20000 in
theorem gL_law_X7_init : GoodIn wsL_law (wsX7_init) := ggL_law_X7_init
set_option maxRecDepth 20000 in
theorem ggL_law_X6_assemble : GoodIn wsL_law wsX6_assemble := goodIn_r _ [96, 97, 24, 98, 99, 100, 20, 15, 101, 102, 2, 103, 104, 105, 106, 107, 108, 109, 23, 110, 111, 112, 113, 114, 115, 116, 117, 118, 78, 119, 120, 121, 122, 123, 124, 125, 126, 127, 128, 129, 130, 131, 132, 133, 134, 135, 136, 137, 138, 139, 140, 141, 142, 143, 144, 145, 146, 147, 148, 149, 150, 151, 152, 153, 154, 155, 156, 157, 158, 159, 160, 161, 162, 163, 164, 165, 166, 167, 168, 169, 170, 171, 172, 173, 174, 175, 176, 177, 178, 179, 180, 181, 182, 183, 184, 185, 186, 187, 188, 189, 190, 191, 192, 193, 194, 195, 196, 197, 198, 199, 200, 201, 202, 203, 204, 205, 206, 207, 208, 209, 210, 211, 80, 212, 213, 214, 215, 216, 217, 218, 219, 220, 221, 222, 223, 224, 225, 226, 227, 228, 229, 230, 231, 232, 233, 234, 235, 236, 237, 238, 239, 240, 241, 242, 243, 244, 245, 246, 247, 248, 19, 249, 72, 250, 251, 252, 253, 254, 255, 14, 256, 30, 34, 36, 257, 258, 259, 260, 37, 38, 39, 43, 261, 262, 263, 264, 265, 45, 266, 64, 267, 65, 268, 269, 270, 271, 66, 272, 273, 274, 275, 276, 277, 278, 33, 279, 50, 280, 51, 281, 282, 283, 42, 284, 60, 285, 286, 287, 288, 838, 839, 840, 841, 865, 866, 867, 868, 869, 870, 853, 854, 855, 856, 857, 858, 859, 860, 861, 871, 872, 862, 863, 864, 876, 877, 878, 879, 880, 881, 882, 883, 884, 885, 886, 873, 874, 875] (by decide +kernel) (by decide +kernel)
set_option maxRecDepth 20000 in
theorem gL_law_X6_assemble : GoodIn wsL_law (wsV RL 13 RX6 yX6_assemble wsX6_assemble) := goodIn_app (goodIn_of _ (by decide +kernel)) ggL_law_X6_assemble
set_option maxRecDepth 20000 in
theorem ggL_law_X7_assemble : GoodIn wsL_law wsX7_assemble := goodIn_r _ [292, 293, 294, 295, 89, 296, 297, 86, 298, 299, 300, 301, 302, 5, 303, 304, 305, 306, 307, 308, 309, 310, 311, 312, 313, 314, 315, 316, 317, 318, 319, 320, 321, 322, 323, 324, 325, 326, 327, 328, 329, 330, 331, 332, 333, 334, 335, 336, 337, 338, 339, 340, 341, 342, 343, 88, 842, 843, 844, 845, 846, 847, 848, 849, 850, 851, 852] (by decide +kernel) (by decide +kernel)
set_option maxRecDepth 20000 in
theorem gL_law_X7_assemble : GoodIn wsL_law (wsV RL 17 RX7 yX7_assemble wsX7_assemble) := goodIn_app (goodIn_of _ (by decide +kernel)) ggL_law_X7_assemble
set_option maxRecDepth 20000 in
theorem ggL_law_X6_start : GoodIn wsL_law wsX6_start := goodIn_r _ [347, 97, 20, 15, 348, 349, 2, 350, 104, 105, 106, 101, 102, 103, 246, 247, 248, 19, 249, 72, 250, 251, 252, 152, 149, 153, 253, 254, 255, 14, 256, 30, 34, 36, 257, 258, 259, 260, 37, 38, 39, 43, 261, 262, 263, 264, 265, 45, 266, 64, 267, 65, 268, 269, 270, 271, 66, 272, 273, 274, 275, 276, 277, 278, 33, 279, 50, 280, 51, 281, 282, 283, 42, 284, 60, 285, 286, 287, 351, 352, 353, 354, 355, 54, 55, 56, 838, 839, 840, 841, 853, 854, 855, 856, 857, 858, 859, 860, 861, 876, 877, 878, 879, 880, 881, 882, 883, 884, 885, 886, 862, 863, 864, 871, 872, 873, 874, 875] (by decide +kernel) (by decide +kernel)
set_option maxRecDepth 20000 in
theorem gL_law_X6_start : GoodIn wsL_law (wsV RL 18 RX6 yX6_start wsX6_start) := goodIn_app (goodIn_of _ (by decide +kernel)) ggL_law_X6_start
set_option maxRecDepth 20000 in
theorem ggL_law_X7_start : GoodIn wsL_law wsX7_start := goodIn_r _ [359, 293, 86, 360, 361, 5, 362, 304, 305, 306, 301, 302, 303, 339, 340, 341, 342, 343, 88, 90, 91, 92, 842, 843, 844, 845, 846, 847, 848, 849, 850, 851, 852] (by decide +kernel) (by decide +kernel)
set_option maxRecDepth 20000 in
theorem gL_law_X7_start : GoodIn wsL_law (wsV RL 22 RX7 yX7_start wsX7_start) := goodIn_app (goodIn_of _ (by decide +kernel)) ggL_law_X7_start
set_option maxRecDepth 20000 in
theorem ggL_law_X6_halt : GoodIn wsL_law wsX6_halt := goodIn_r _ [366, 97, 20, 15, 348, 349, 2, 350, 104, 105, 106, 246, 247, 248, 19, 249, 72, 250, 251, 252, 152, 149, 153, 253, 254, 255, 14, 256, 30, 34, 36, 257, 258, 259, 260, 37, 38, 39, 43, 261, 262, 263, 264, 265, 45, 266, 64, 267, 65, 268, 269, 270, 271, 66, 272, 273, 274, 275, 276, 277, 278, 33, 279, 50, 280, 51, 281, 282, 283, 42, 284, 60, 285, 286, 287, 367, 368, 369, 370, 838, 839, 840, 841, 853, 854, 855, 856, 857, 858, 859, 860, 861, 876, 877, 878, 879, 880, 881, 882, 883, 884, 885, 886, 862, 863, 864, 871, 872, 873, 874, 875] (by decide +kernel) (by decide +kernel)
set_option maxRecDepth 20000 in
theorem gL_law_X6_halt : GoodIn wsL_law (wsV RL 23 RX6 yX6_halt wsX6_halt) := goodIn_app (goodIn_of _ (by decide +kernel)) ggL_law_X6_halt
set_option maxRecDepth 20000 in
theorem ggL_law_X7_halt : GoodIn wsL_law wsX7_halt := goodIn_r _ [374, 293, 86, 360, 361, 5, 362, 304, 305, 306, 339, 340, 341, 342, 343, 88, 90, 91, 92, 842, 843, 844, 845, 846, 847, 848, 849, 850, 851, 852] (by decide +kernel) (by decide +kernel)
set_option maxRecDepth 20000 in
theorem gL_law_X7_halt : GoodIn wsL_law (wsV RL 26 RX7 yX7_halt wsX7_halt) := goodIn_app (goodIn_of _ (by decide +kernel)) ggL_law_X7_halt
set_option maxRecDepth 20000 in
theorem ggL_law_X6_setRegister : GoodIn wsL_law wsX6_setRegister := goodIn_r _ [378, 97, 379, 20, 15, 348, 349, 2, 350, 104, 105, 106, 380, 381, 382, 383, 384, 385, 246, 247, 248, 19, 249, 72, 250, 251, 252, 152, 149, 153, 253, 254, 255, 14, 256, 30, 34, 36, 257, 258, 259, 260, 37, 38, 39, 43, 261, 262, 263, 264, 265, 45, 266, 64, 267, 65, 268, 269, 270, 271, 66, 272, 273, 274, 275, 276, 277, 278, 33, 279, 50, 280, 51, 281, 282, 283, 42, 284, 60, 285, 286, 287, 386, 387, 388, 838, 839, 840, 841, 853, 854, 855, 856, 857, 858, 859, 860, 861, 876, 877, 878, 879, 880, 881, 882, 883, 884, 885, 886, 862, 863, 864, 871, 872, 873, 874, 875] (by decide +kernel) (by decide +kernel)
set_option maxRecDepth 20000 in
theorem gL_law_X6_setRegister : GoodIn wsL_law (wsV RL 27 RX6 yX6_setRegister wsX6_setRegister) := goodIn_app (goodIn_of _ (by decide +kernel)) ggL_law_X6_setRegister
set_option maxRecDepth 20000 in
theorem ggL_law_X7_setRegister : GoodIn wsL_law wsX7_setRegister := goodIn_r _ [392, 293, 393, 360, 361, 5, 362, 304, 305, 306, 394, 395, 396, 339, 340, 341, 342, 343, 88, 86, 397, 398, 399, 400, 90, 91, 92, 401, 402, 403, 404, 842, 843, 844, 845, 846, 847, 848, 849, 850, 851, 852] (by decide +kernel) (by decide +kernel)
set_option maxRecDepth 20000 in
theorem gL_law_X7_setRegister : GoodIn wsL_law (wsV RL 31 RX7 yX7_setRegister wsX7_setRegister) := goodIn_app (goodIn_of _ (by decide +kernel)) ggL_law_X7_setRegister
set_option maxRecDepth 20000 in
theorem ggL_law_X6_setWord : GoodIn wsL_law wsX6_setWord := goodIn_r _ [408, 97, 379, 20, 15, 409, 410, 2, 411, 104, 105, 106, 383, 384, 385, 246, 247, 248, 19, 249, 72, 250, 251, 252, 152, 149, 153, 253, 254, 255, 14, 256, 30, 34, 36, 257, 258, 259, 260, 37, 38, 39, 43, 261, 262, 263, 264, 265, 45, 266, 64, 267, 65, 268, 269, 270, 271, 66, 272, 273, 274, 275, 276, 277, 278, 33, 279, 50, 280, 51, 281, 282, 283, 42, 284, 60, 285, 286, 287, 386, 387, 388, 838, 839, 840, 841, 853, 854, 855, 856, 857, 858, 859, 860, 861, 862, 863, 864, 876, 877, 878, 879, 880, 881, 882, 883, 884, 885, 886, 871, 872, 873, 874, 875] (by decide +kernel) (by decide +kernel)
set_option maxRecDepth 20000 in
theorem gL_law_X6_setWord : GoodIn wsL_law (wsV RL 32 RX6 yX6_setWord wsX6_setWord) := goodIn_app (goodIn_of _ (by decide +kernel)) ggL_law_X6_setWord
set_option maxRecDepth 20000 in
theorem ggL_law_X7_setWord : GoodIn wsL_law wsX7_setWord := goodIn_r _ [415, 293, 393, 86, 304, 305, 5, 306, 394, 395, 396, 339, 340, 341, 342, 343, 88, 842, 843, 844, 845, 846, 847, 848, 849, 850, 851, 852] (by decide +kernel) (by decide +kernel)
set_option maxRecDepth 20000 in
theorem gL_law_X7_setWord : GoodIn wsL_law (wsV RL 35 RX7 yX7_setWord wsX7_setWord) := goodIn_app (goodIn_of _ (by decide +kernel)) ggL_law_X7_setWord
set_option maxRecDepth 20000 in
theorem ggL_law_X6_setSlot : GoodIn wsL_law wsX6_setSlot := goodIn_r _ [419, 97, 20, 15, 420, 421, 2, 422, 104, 105, 106, 348, 349, 350, 246, 247, 248, 19, 249, 72, 250, 251, 252, 152, 149, 153, 253, 254, 255, 14, 256, 30, 34, 36, 257, 258, 259, 260, 37, 38, 39, 43, 261, 262, 263, 264, 265, 45, 266, 64, 267, 65, 268, 269, 270, 271, 66, 272, 273, 274, 275, 276, 277, 278, 33, 279, 50, 280, 51, 281, 282, 283, 42, 284, 60, 285, 286, 287, 386, 387, 388, 838, 839, 840, 841, 853, 854, 855, 856, 857, 858, 859, 860, 861, 862, 863, 864, 876, 877, 878, 879, 880, 881, 882, 883, 884, 885, 886, 871, 872, 873, 874, 875] (by decide +kernel) (by decide +kernel)
set_option maxRecDepth 20000 in
theorem gL_law_X6_setSlot : GoodIn wsL_law (wsV RL 36 RX6 yX6_setSlot wsX6_setSlot) := goodIn_app (goodIn_of _ (by decide +kernel)) ggL_law_X6_setSlot
set_option maxRecDepth 20000 in
theorem ggL_law_X7_setSlot : GoodIn wsL_law wsX7_setSlot := goodIn_r _ [426, 293, 86, 304, 305, 5, 306, 360, 361, 362, 339, 340, 341, 342, 343, 88, 842, 843, 844, 845, 846, 847, 848, 849, 850, 851, 852] (by decide +kernel) (by decide +kernel)
set_option maxRecDepth 20000 in
theorem gL_law_X7_setSlot : GoodIn wsL_law (wsV RL 39 RX7 yX7_setSlot wsX7_setSlot) := goodIn_app (goodIn_of _ (by decide +kernel)) ggL_law_X7_setSlot
set_option maxRecDepth 20000 in
theorem ggL_law_X6_set : GoodIn wsL_law wsX6_set := goodIn_r _ [430, 97, 379, 20, 15, 431, 432, 2, 433, 104, 105, 106, 246, 247, 248, 19, 249, 72, 250, 251, 252, 152, 149, 153, 253, 254, 255, 14, 256, 30, 34, 36, 257, 258, 259, 260, 37, 38, 39, 43, 261, 262, 263, 264, 265, 45, 266, 64, 267, 65, 268, 269, 270, 271, 66, 272, 273, 274, 275, 276, 277, 278, 33, 279, 50, 280, 51, 281, 282, 283, 42, 284, 60, 285, 286, 287, 386, 387, 388, 838, 839, 840, 841, 853, 854, 855, 856, 857, 858, 859, 860, 861, 862, 863, 864, 876, 877, 878, 879, 880, 881, 882, 883, 884, 885, 886, 871, 872, 873, 874, 875] (by decide +kernel) (by decide +kernel)
set_option maxRecDepth 20000 in
theorem gL_law_X6_set : GoodIn wsL_law (wsV RL 40 RX6 yX6_set wsX6_set) := goodIn_app (goodIn_of _ (by decide +kernel)) ggL_law_X6_set
set_option maxRecDepth 20000 in
theorem ggL_law_X7_set : GoodIn wsL_law wsX7_set := goodIn_r _ [437, 293, 393, 86, 304, 305, 5, 306, 339, 340, 341, 342, 343, 88, 842, 843, 844, 845, 846, 847, 848, 849, 850, 851, 852] (by decide +kernel) (by decide +kernel)
set_option maxRecDepth 20000 in
theorem gL_law_X7_set : GoodIn wsL_law (wsV RL 43 RX7 yX7_set wsX7_set) := goodIn_app (goodIn_of _ (by decide +kernel)) ggL_law_X7_set
set_option maxRecDepth 20000 in
theorem ggL_law_X6_setBreakpoint : GoodIn wsL_law wsX6_setBreakpoint := goodIn_r _ [441, 97, 20, 15, 101, 102, 2, 103, 104, 105, 106, 246, 247, 248, 19, 249, 72, 250, 251, 252, 152, 149, 153, 253, 254, 255, 14, 256, 30, 34, 36, 257, 258, 259, 260, 37, 38, 39, 43, 261, 262, 263, 264, 265, 45, 266, 64, 267, 65, 268, 269, 270, 271, 66, 272, 273, 274, 275, 276, 277, 278, 33, 279, 50, 280, 51, 281, 282, 283, 42, 284, 60, 285, 286, 287, 442, 443, 444, 445, 838, 839, 840, 841, 853, 854, 855, 856, 857, 858, 859, 860, 861, 862, 863, 864, 876, 877, 878, 879, 880, 881, 882, 883, 884, 885, 886, 871, 872, 873, 874, 875] (by decide +kernel) (by decide +kernel)
set_option maxRecDepth 20000 in
theorem gL_law_X6_setBreakpoint : GoodIn wsL_law (wsV RL 44 RX6 yX6_setBreakpoint wsX6_setBreakpoint) := goodIn_app (goodIn_of _ (by decide +kernel)) ggL_law_X6_setBreakpoint
set_option maxRecDepth 20000 in
theorem ggL_law_X7_setBreakpoint : GoodIn wsL_law wsX7_setBreakpoint := goodIn_r _ [449, 293, 86, 301, 302, 5, 303, 304, 305, 306, 339, 340, 341, 342, 343, 88, 842, 843, 844, 845, 846, 847, 848, 849, 850, 851, 852] (by decide +kernel) (by decide +kernel)
set_option maxRecDepth 20000 in
theorem gL_law_X7_setBreakpoint : GoodIn wsL_law (wsV RL 48 RX7 yX7_setBreakpoint wsX7_setBreakpoint) := goodIn_app (goodIn_of _ (by decide +kernel)) ggL_law_X7_setBreakpoint
set_option maxRecDepth 20000 in
theorem ggL_law_X6_run : GoodIn wsL_law wsX6_run := goodIn_r _ [453, 379, 20, 15, 104, 105, 2, 106, 246, 247, 248, 19, 249, 72, 250, 251, 252, 152, 149, 153, 253, 254, 255, 14, 256, 30, 34, 36, 257, 258, 259, 260, 37, 38, 39, 43, 261, 262, 263, 264, 265, 45, 266, 64, 267, 65, 268, 269, 270, 271, 66, 272, 273, 274, 275, 276, 277, 278, 33, 279, 50, 280, 51, 281, 282, 283, 42, 284, 60, 285, 286, 287, 454, 455, 456, 457, 458, 459, 460, 461, 462, 463, 464, 465, 466, 467, 468, 469, 470, 471, 472, 473, 474, 475, 476, 477, 478, 479, 480, 481, 482, 483, 484, 485, 486, 487, 488, 489, 490, 491, 492, 493, 494, 495, 496, 349, 350, 102, 103, 497, 498, 499, 500, 501, 502, 503, 504, 505, 506, 507, 508, 509, 510, 511, 512, 513, 514, 515, 516, 517, 148, 150, 518, 519, 520, 521, 522, 523, 524, 525, 526, 527, 528, 529, 530, 531, 532, 533, 534, 535, 536, 537, 538, 539, 540, 541, 542, 543, 544, 838, 839, 840, 841, 862, 863, 864, 853, 854, 855, 856, 857, 858, 859, 860, 861, 876, 877, 878, 879, 880, 881, 882, 883, 884, 885, 886, 871, 872, 873, 874, 875] (by decide +kernel) (by decide +kernel)
set_option maxRecDepth 20000 in
theorem gL_law_X6_run : GoodIn wsL_law (wsV RL 49 RX6 yX6_run wsX6_run) := goodIn_app (goodIn_of _ (by decide +kernel)) ggL_law_X6_run
set_option maxRecDepth 20000 in
theorem ggL_law_X7_run : GoodIn wsL_law wsX7_run := goodIn_r _ [548, 393, 304, 305, 5, 306, 339, 340, 341, 342, 343, 88, 86, 549, 550, 551, 552, 553, 554, 555, 556, 90, 91, 92, 557, 558, 559, 560, 561, 562, 563, 564, 87, 565, 566, 567, 568, 401, 402, 403, 404, 569, 570, 571, 572, 573, 574, 575, 576, 577, 578, 579, 580, 581, 582, 583, 584, 585, 586, 587, 588, 589, 590, 591, 592, 593, 594, 595, 596, 397, 398, 399, 400, 597, 598, 599, 600, 842, 843, 844, 845, 846, 847, 848, 849, 850, 851, 852] (by decide +kernel) (by decide +kernel)
set_option maxRecDepth 20000 in
theorem gL_law_X7_run : GoodIn wsL_law (wsV RL 52 RX7 yX7_run wsX7_run) := goodIn_app (goodIn_of _ (by decide +kernel)) ggL_law_X7_run
set_option maxRecDepth 20000 in
theorem ggL_law_X6_append : GoodIn wsL_law wsX6_append := goodIn_r _ [604, 379, 24, 100, 104, 105, 2, 106, 605, 606, 607, 23, 608, 113, 78, 838, 839, 840, 841, 865, 866, 867, 868, 869, 870] (by decide +kernel) (by decide +kernel)
set_option maxRecDepth 20000 in
theorem gL_law_X6_append : GoodIn wsL_law (wsV RL 53 RX6 yX6_append wsX6_append) := goodIn_app (goodIn_of _ (by decide +kernel)) ggL_law_X6_append
set_option maxRecDepth 20000 in
theorem ggL_law_X7_append : GoodIn wsL_law wsX7_append := goodIn_r _ [612, 393, 295, 296, 89, 304, 305, 5, 306, 842, 843, 844, 845, 846, 847, 848, 849, 850, 851, 852] (by decide +kernel) (by decide +kernel)
set_option maxRecDepth 20000 in
theorem gL_law_X7_append : GoodIn wsL_law (wsV RL 56 RX7 yX7_append wsX7_append) := goodIn_app (goodIn_of _ (by decide +kernel)) ggL_law_X7_append
set_option maxRecDepth 20000 in
theorem ggL_law_X6_clearText : GoodIn wsL_law wsX6_clearText := goodIn_r _ [616, 24, 838, 839, 840, 841, 865, 866, 867, 868, 869, 870] (by decide +kernel) (by decide +kernel)
set_option maxRecDepth 20000 in
theorem gL_law_X6_clearText : GoodIn wsL_law (wsV RL 57 RX6 yX6_clearText wsX6_clearText) := goodIn_app (goodIn_of _ (by decide +kernel)) ggL_law_X6_clearText
set_option maxRecDepth 20000 in
theorem ggL_law_X7_clearText : GoodIn wsL_law wsX7_clearText := goodIn_r _ [620, 295, 842, 843, 844, 845, 846, 847, 848, 849, 850, 851, 852] (by decide +kernel) (by decide +kernel)
set_option maxRecDepth 20000 in
theorem gL_law_X7_clearText : GoodIn wsL_law (wsV RL 61 RX7 yX7_clearText wsX7_clearText) := goodIn_app (goodIn_of _ (by decide +kernel)) ggL_law_X7_clearText
set_option maxRecDepth 20000 in
theorem ggL_law_X6_fault : GoodIn wsL_law wsX6_fault := goodIn_r _ [624, 24, 107, 108, 109, 23, 110, 111, 112, 113, 114, 115, 116, 117, 118, 78, 119, 120, 121, 122, 123, 124, 125, 126, 127, 128, 129, 130, 131, 132, 133, 134, 135, 136, 137, 138, 139, 140, 141, 142, 143, 144, 145, 146, 147, 148, 149, 150, 151, 152, 153, 154, 155, 156, 157, 158, 159, 160, 161, 162, 163, 164, 165, 166, 167, 168, 169, 170, 171, 172, 173, 174, 175, 176, 177, 178, 179, 180, 181, 182, 183, 184, 185, 186, 187, 188, 189, 190, 191, 192, 193, 194, 195, 196, 197, 198, 199, 200, 201, 202, 203, 204, 205, 206, 207, 208, 209, 210, 211, 80, 212, 213, 214, 215, 216, 217, 218, 219, 220, 221, 222, 223, 224, 105, 2, 106, 225, 226, 227, 228, 229, 230, 231, 232, 233, 234, 235, 236, 237, 238, 239, 240, 241, 242, 243, 244, 245, 838, 839, 840, 841, 865, 866, 867, 868, 869, 870, 871, 872] (by decide +kernel) (by decide +kernel)
set_option maxRecDepth 20000 in
theorem gL_law_X6_fault : GoodIn wsL_law (wsV RL 62 RX6 yX6_fault wsX6_fault) := goodIn_app (goodIn_of _ (by decide +kernel)) ggL_law_X6_fault
set_option maxRecDepth 20000 in
theorem ggL_law_X7_fault : GoodIn wsL_law wsX7_fault := goodIn_r _ [628, 297, 629, 307, 308, 309, 5, 310, 311, 295, 312, 313, 314, 315, 298, 299, 300, 316, 317, 318, 319, 89, 320, 321, 322, 323, 324, 325, 326, 327, 328, 329, 330, 304, 305, 306, 331, 332, 333, 334, 335, 336, 337, 338, 842, 843, 844, 845, 846, 847, 848, 849, 850, 851, 852] (by decide +kernel) (by decide +kernel)
set_option maxRecDepth 20000 in
theorem gL_law_X7_fault : GoodIn wsL_law (wsV RL 65 RX7 yX7_fault wsX7_fault) := goodIn_app (goodIn_of _ (by decide +kernel)) ggL_law_X7_fault
set_option maxRecDepth 20000 in
theorem ggL_law_X6_undo : GoodIn wsL_law wsX6_undo := goodIn_r _ [633, 20, 15, 634, 635, 636, 19, 637, 251, 638, 250, 72, 253, 254, 255, 14, 256, 30, 34, 36, 257, 258, 259, 260, 37, 38, 39, 43, 261, 262, 263, 264, 265, 45, 266, 64, 267, 65, 268, 269, 270, 271, 66, 272, 273, 274, 275, 276, 277, 278, 33, 279, 50, 280, 51, 281, 282, 283, 42, 284, 60, 285, 286, 287, 838, 839, 840, 841, 862, 863, 864, 853, 854, 855, 856, 857, 858, 859, 860, 861, 876, 877, 878, 879, 880, 881, 882, 883, 884, 885, 886, 871, 872, 873, 874, 875] (by decide +kernel) (by decide +kernel)
set_option maxRecDepth 20000 in
theorem gL_law_X6_undo : GoodIn wsL_law (wsV RL 66 RX6 yX6_undo wsX6_undo) := goodIn_app (goodIn_of _ (by decide +kernel)) ggL_law_X6_undo
set_option maxRecDepth 20000 in
theorem ggL_law_X7_undo : GoodIn wsL_law wsX7_undo := goodIn_r _ [642, 343, 629, 86, 88, 842, 843, 844, 845, 846, 847, 848, 849, 850, 851, 852] (by decide +kernel) (by decide +kernel)
set_option maxRecDepth 20000 in
theorem gL_law_X7_undo : GoodIn wsL_law (wsV RL 69 RX7 yX7_undo wsX7_undo) := goodIn_app (goodIn_of _ (by decide +kernel)) ggL_law_X7_undo
set_option maxRecDepth 20000 in
theorem ggL_law_X6_state : GoodIn wsL_law wsX6_state := goodIn_r _ [646, 15, 97, 348, 349, 2, 350, 104, 105, 106, 838, 839, 840, 841, 853, 854, 855, 856, 857, 858, 859, 860, 861, 876, 877, 878, 879, 880, 881, 882, 883, 884, 885, 886] (by decide +kernel) (by decide +kernel)
set_option maxRecDepth 20000 in
theorem gL_law_X6_state : GoodIn wsL_law (wsV RL 70 RX6 yX6_state wsX6_state) := goodIn_app (goodIn_of _ (by decide +kernel)) ggL_law_X6_state
set_option maxRecDepth 20000 in
theorem ggL_law_X7_state : GoodIn wsL_law wsX7_state := goodIn_r _ [650, 651, 652, 653, 5, 654, 86, 293, 360, 361, 362, 304, 305, 306, 90, 91, 92, 842, 843, 844, 845, 846, 847, 848, 849, 850, 851, 852] (by decide +kernel) (by decide +kernel)
set_option maxRecDepth 20000 in
theorem gL_law_X7_state : GoodIn wsL_law (wsV RL 73 RX7 yX7_state wsX7_state) := goodIn_app (goodIn_of _ (by decide +kernel)) ggL_law_X7_state
set_option maxRecDepth 20000 in
theorem ggL_law_X6_programCounter : GoodIn wsL_law wsX6_programCounter := goodIn_r _ [658, 15, 97, 348, 349, 2, 350, 104, 105, 106, 838, 839, 840, 841, 853, 854, 855, 856, 857, 858, 859, 860, 861, 876, 877, 878, 879, 880, 881, 882, 883, 884, 885, 886] (by decide +kernel) (by decide +kernel)
set_option maxRecDepth 20000 in
theorem gL_law_X6_programCounter : GoodIn wsL_law (wsV RL 74 RX6 yX6_programCounter wsX6_programCounter) := goodIn_app (goodIn_of _ (by decide +kernel)) ggL_law_X6_programCounter
set_option maxRecDepth 20000 in
theorem ggL_law_X7_programCounter : GoodIn wsL_law wsX7_programCounter := goodIn_r _ [662, 651, 652, 653, 5, 654, 86, 293, 360, 361, 362, 304, 305, 306, 90, 91, 92, 842, 843, 844, 845, 846, 847, 848, 849, 850, 851, 852] (by decide +kernel) (by decide +kernel)
set_option maxRecDepth 20000 in
theorem gL_law_X7_programCounter : GoodIn wsL_law (wsV RL 77 RX7 yX7_programCounter wsX7_programCounter) := goodIn_app (goodIn_of _ (by decide +kernel)) ggL_law_X7_programCounter
set_option maxRecDepth 20000 in
theorem ggL_law_X6_register : GoodIn wsL_law wsX6_register := goodIn_r _ [666, 97, 15, 348, 349, 2, 350, 104, 105, 106, 380, 381, 382, 838, 839, 840, 841, 853, 854, 855, 856, 857, 858, 859, 860, 861, 876, 877, 878, 879, 880, 881, 882, 883, 884, 885, 886] (by decide +kernel) (by decide +kernel)
set_option maxRecDepth 20000 in
theorem gL_law_X6_register : GoodIn wsL_law (wsV RL 78 RX6 yX6_register wsX6_register) := goodIn_app (goodIn_of _ (by decide +kernel)) ggL_law_X6_register
set_option maxRecDepth 20000 in
theorem ggL_law_X7_register : GoodIn wsL_law wsX7_register := goodIn_r _ [670, 293, 360, 361, 5, 362, 304, 305, 306, 397, 398, 399, 400, 86, 90, 91, 92, 842, 843, 844, 845, 846, 847, 848, 849, 850, 851, 852] (by decide +kernel) (by decide +kernel)
set_option maxRecDepth 20000 in
theorem gL_law_X7_register : GoodIn wsL_law (wsV RL 81 RX7 yX7_register wsX7_register) := goodIn_app (goodIn_of _ (by decide +kernel)) ggL_law_X7_register
set_option maxRecDepth 20000 in
theorem ggL_law_X6_word : GoodIn wsL_law wsX6_word := goodIn_r _ [674, 15, 97, 409, 410, 2, 411, 104, 105, 106, 838, 839, 840, 841, 853, 854, 855, 856, 857, 858, 859, 860, 861] (by decide +kernel) (by decide +kernel)
set_option maxRecDepth 20000 in
theorem gL_law_X6_word : GoodIn wsL_law (wsV RL 82 RX6 yX6_word wsX6_word) := goodIn_app (goodIn_of _ (by decide +kernel)) ggL_law_X6_word
set_option maxRecDepth 20000 in
theorem ggL_law_X7_word : GoodIn wsL_law wsX7_word := goodIn_r _ [678, 86, 293, 304, 305, 5, 306, 842, 843, 844, 845, 846, 847, 848, 849, 850, 851, 852] (by decide +kernel) (by decide +kernel)
set_option maxRecDepth 20000 in
theorem gL_law_X7_word : GoodIn wsL_law (wsV RL 85 RX7 yX7_word wsX7_word) := goodIn_app (goodIn_of _ (by decide +kernel)) ggL_law_X7_word
set_option maxRecDepth 20000 in
theorem ggL_law_X6_operation : GoodIn wsL_law wsX6_operation := goodIn_r _ [682, 15, 97, 101, 102, 2, 103, 104, 105, 106, 838, 839, 840, 841, 853, 854, 855, 856, 857, 858, 859, 860, 861, 871, 872] (by decide +kernel) (by decide +kernel)
set_option maxRecDepth 20000 in
theorem gL_law_X6_operation : GoodIn wsL_law (wsV RL 86 RX6 yX6_operation wsX6_operation) := goodIn_app (goodIn_of _ (by decide +kernel)) ggL_law_X6_operation
set_option maxRecDepth 20000 in
theorem ggL_law_X7_operation : GoodIn wsL_law wsX7_operation := goodIn_r _ [686, 86, 293, 301, 302, 5, 303, 304, 305, 306, 842, 843, 844, 845, 846, 847, 848, 849, 850, 851, 852] (by decide +kernel) (by decide +kernel)
set_option maxRecDepth 20000 in
theorem gL_law_X7_operation : GoodIn wsL_law (wsV RL 89 RX7 yX7_operation wsX7_operation) := goodIn_app (goodIn_of _ (by decide +kernel)) ggL_law_X7_operation
set_option maxRecDepth 20000 in
theorem ggL_law_X6_operand : GoodIn wsL_law wsX6_operand := goodIn_r _ [690, 97, 379, 15, 101, 102, 2, 103, 104, 105, 106, 838, 839, 840, 841, 853, 854, 855, 856, 857, 858, 859, 860, 861, 871, 872] (by decide +kernel) (by decide +kernel)
set_option maxRecDepth 20000 in
theorem gL_law_X6_operand : GoodIn wsL_law (wsV RL 90 RX6 yX6_operand wsX6_operand) := goodIn_app (goodIn_of _ (by decide +kernel)) ggL_law_X6_operand
set_option maxRecDepth 20000 in
theorem ggL_law_X7_operand : GoodIn wsL_law wsX7_operand := goodIn_r _ [694, 293, 393, 86, 629, 301, 302, 5, 303, 304, 305, 306, 842, 843, 844, 845, 846, 847, 848, 849, 850, 851, 852] (by decide +kernel) (by decide +kernel)
set_option maxRecDepth 20000 in
theorem gL_law_X7_operand : GoodIn wsL_law (wsV RL 93 RX7 yX7_operand wsX7_operand) := goodIn_app (goodIn_of _ (by decide +kernel)) ggL_law_X7_operand
set_option maxRecDepth 20000 in
theorem ggL_law_X6_slot : GoodIn wsL_law wsX6_slot := goodIn_r _ [698, 15, 97, 420, 421, 2, 422, 104, 105, 106, 838, 839, 840, 841, 853, 854, 855, 856, 857, 858, 859, 860, 861] (by decide +kernel) (by decide +kernel)
set_option maxRecDepth 20000 in
theorem gL_law_X6_slot : GoodIn wsL_law (wsV RL 94 RX6 yX6_slot wsX6_slot) := goodIn_app (goodIn_of _ (by decide +kernel)) ggL_law_X6_slot
set_option maxRecDepth 20000 in
theorem ggL_law_X7_slot : GoodIn wsL_law wsX7_slot := goodIn_r _ [702, 86, 293, 304, 305, 5, 306, 842, 843, 844, 845, 846, 847, 848, 849, 850, 851, 852] (by decide +kernel) (by decide +kernel)
set_option maxRecDepth 20000 in
theorem gL_law_X7_slot : GoodIn wsL_law (wsV RL 97 RX7 yX7_slot wsX7_slot) := goodIn_app (goodIn_of _ (by decide +kernel)) ggL_law_X7_slot
set_option maxRecDepth 20000 in
theorem ggL_law_X6_setting : GoodIn wsL_law wsX6_setting := goodIn_r _ [706, 15, 97, 431, 432, 2, 433, 104, 105, 106, 838, 839, 840, 841, 853, 854, 855, 856, 857, 858, 859, 860, 861] (by decide +kernel) (by decide +kernel)
set_option maxRecDepth 20000 in
theorem gL_law_X6_setting : GoodIn wsL_law (wsV RL 98 RX6 yX6_setting wsX6_setting) := goodIn_app (goodIn_of _ (by decide +kernel)) ggL_law_X6_setting
set_option maxRecDepth 20000 in
theorem ggL_law_X7_setting : GoodIn wsL_law wsX7_setting := goodIn_r _ [710, 86, 293, 304, 305, 5, 306, 842, 843, 844, 845, 846, 847, 848, 849, 850, 851, 852] (by decide +kernel) (by decide +kernel)
set_option maxRecDepth 20000 in
theorem gL_law_X7_setting : GoodIn wsL_law (wsV RL 101 RX7 yX7_setting wsX7_setting) := goodIn_app (goodIn_of _ (by decide +kernel)) ggL_law_X7_setting
set_option maxRecDepth 20000 in
theorem ggL_law_X6_breakpoint : GoodIn wsL_law wsX6_breakpoint := goodIn_r _ [714, 15, 97, 101, 102, 2, 103, 104, 105, 106, 838, 839, 840, 841, 853, 854, 855, 856, 857, 858, 859, 860, 861] (by decide +kernel) (by decide +kernel)
set_option maxRecDepth 20000 in
theorem gL_law_X6_breakpoint : GoodIn wsL_law (wsV RL 102 RX6 yX6_breakpoint wsX6_breakpoint) := goodIn_app (goodIn_of _ (by decide +kernel)) ggL_law_X6_breakpoint
set_option maxRecDepth 20000 in
theorem ggL_law_X7_breakpoint : GoodIn wsL_law wsX7_breakpoint := goodIn_r _ [718, 86, 293, 301, 302, 5, 303, 304, 305, 306, 842, 843, 844, 845, 846, 847, 848, 849, 850, 851, 852] (by decide +kernel) (by decide +kernel)
set_option maxRecDepth 20000 in
theorem gL_law_X7_breakpoint : GoodIn wsL_law (wsV RL 105 RX7 yX7_breakpoint wsX7_breakpoint) := goodIn_app (goodIn_of _ (by decide +kernel)) ggL_law_X7_breakpoint
set_option maxRecDepth 20000 in
theorem ggL_law_X6_cycle : GoodIn wsL_law wsX6_cycle := goodIn_r _ [722, 15, 838, 839, 840, 841, 853, 854, 855, 856, 857, 858, 859, 860, 861] (by decide +kernel) (by decide +kernel)
set_option maxRecDepth 20000 in
theorem gL_law_X6_cycle : GoodIn wsL_law (wsV RL 106 RX6 yX6_cycle wsX6_cycle) := goodIn_app (goodIn_of _ (by decide +kernel)) ggL_law_X6_cycle
set_option maxRecDepth 20000 in
theorem ggL_law_X7_cycle : GoodIn wsL_law wsX7_cycle := goodIn_r _ [726, 86, 842, 843, 844, 845, 846, 847, 848, 849, 850, 851, 852] (by decide +kernel) (by decide +kernel)
set_option maxRecDepth 20000 in
theorem gL_law_X7_cycle : GoodIn wsL_law (wsV RL 109 RX7 yX7_cycle wsX7_cycle) := goodIn_app (goodIn_of _ (by decide +kernel)) ggL_law_X7_cycle
set_option maxRecDepth 20000 in
theorem ggL_law_X6_idle : GoodIn wsL_law wsX6_idle := goodIn_r _ [730, 15, 838, 839, 840, 841, 853, 854, 855, 856, 857, 858, 859, 860, 861] (by decide +kernel) (by decide +kernel)
set_option maxRecDepth 20000 in
theorem gL_law_X6_idle : GoodIn wsL_law (wsV RL 110 RX6 yX6_idle wsX6_idle) := goodIn_app (goodIn_of _ (by decide +kernel)) ggL_law_X6_idle
set_option maxRecDepth 20000 in
theorem ggL_law_X7_idle : GoodIn wsL_law wsX7_idle := goodIn_r _ [734, 86, 842, 843, 844, 845, 846, 847, 848, 849, 850, 851, 852] (by decide +kernel) (by decide +kernel)
set_option maxRecDepth 20000 in
theorem gL_law_X7_idle : GoodIn wsL_law (wsV RL 113 RX7 yX7_idle wsX7_idle) := goodIn_app (goodIn_of _ (by decide +kernel)) ggL_law_X7_idle
set_option maxRecDepth 20000 in
theorem ggL_law_X6_executed : GoodIn wsL_law wsX6_executed := goodIn_r _ [738, 15, 97, 348, 349, 2, 350, 104, 105, 106, 838, 839, 840, 841, 853, 854, 855, 856, 857, 858, 859, 860, 861, 876, 877, 878, 879, 880, 881, 882, 883, 884, 885, 886] (by decide +kernel) (by decide +kernel)
set_option maxRecDepth 20000 in
theorem gL_law_X6_executed : GoodIn wsL_law (wsV RL 114 RX6 yX6_executed wsX6_executed) := goodIn_app (goodIn_of _ (by decide +kernel)) ggL_law_X6_executed
set_option maxRecDepth 20000 in
theorem ggL_law_X7_executed : GoodIn wsL_law wsX7_executed := goodIn_r _ [742, 651, 652, 653, 5, 654, 86, 293, 360, 361, 362, 304, 305, 306, 90, 91, 92, 842, 843, 844, 845, 846, 847, 848, 849, 850, 851, 852] (by decide +kernel) (by decide +kernel)
set_option maxRecDepth 20000 in
theorem gL_law_X7_executed : GoodIn wsL_law (wsV RL 117 RX7 yX7_executed wsX7_executed) := goodIn_app (goodIn_of _ (by decide +kernel)) ggL_law_X7_executed
set_option maxRecDepth 20000 in
theorem ggL_law_X6_lent : GoodIn wsL_law wsX6_lent := goodIn_r _ [746, 15, 97, 348, 349, 2, 350, 104, 105, 106, 838, 839, 840, 841, 853, 854, 855, 856, 857, 858, 859, 860, 861, 876, 877, 878, 879, 880, 881, 882, 883, 884, 885, 886] (by decide +kernel) (by decide +kernel)
set_option maxRecDepth 20000 in
theorem gL_law_X6_lent : GoodIn wsL_law (wsV RL 118 RX6 yX6_lent wsX6_lent) := goodIn_app (goodIn_of _ (by decide +kernel)) ggL_law_X6_lent
set_option maxRecDepth 20000 in
theorem ggL_law_X7_lent : GoodIn wsL_law wsX7_lent := goodIn_r _ [750, 651, 652, 653, 5, 654, 86, 293, 360, 361, 362, 304, 305, 306, 90, 91, 92, 842, 843, 844, 845, 846, 847, 848, 849, 850, 851, 852] (by decide +kernel) (by decide +kernel)
set_option maxRecDepth 20000 in
theorem gL_law_X7_lent : GoodIn wsL_law (wsV RL 121 RX7 yX7_lent wsX7_lent) := goodIn_app (goodIn_of _ (by decide +kernel)) ggL_law_X7_lent
set_option maxRecDepth 20000 in
theorem ggL_law_X6_starved : GoodIn wsL_law wsX6_starved := goodIn_r _ [754, 15, 97, 348, 349, 2, 350, 104, 105, 106, 838, 839, 840, 841, 853, 854, 855, 856, 857, 858, 859, 860, 861, 876, 877, 878, 879, 880, 881, 882, 883, 884, 885, 886] (by decide +kernel) (by decide +kernel)
set_option maxRecDepth 20000 in
theorem gL_law_X6_starved : GoodIn wsL_law (wsV RL 122 RX6 yX6_starved wsX6_starved) := goodIn_app (goodIn_of _ (by decide +kernel)) ggL_law_X6_starved
set_option maxRecDepth 20000 in
theorem ggL_law_X7_starved : GoodIn wsL_law wsX7_starved := goodIn_r _ [758, 651, 652, 653, 5, 654, 86, 293, 360, 361, 362, 304, 305, 306, 90, 91, 92, 842, 843, 844, 845, 846, 847, 848, 849, 850, 851, 852] (by decide +kernel) (by decide +kernel)
set_option maxRecDepth 20000 in
theorem gL_law_X7_starved : GoodIn wsL_law (wsV RL 125 RX7 yX7_starved wsX7_starved) := goodIn_app (goodIn_of _ (by decide +kernel)) ggL_law_X7_starved
set_option maxRecDepth 20000 in
theorem ggL_law_X6_trace : GoodIn wsL_law wsX6_trace := goodIn_r _ [762, 379, 15, 104, 105, 2, 106, 763, 764, 765, 42, 766, 287, 767, 286, 60, 838, 839, 840, 841, 853, 854, 855, 856, 857, 858, 859, 860, 861, 873, 874, 875] (by decide +kernel) (by decide +kernel)
set_option maxRecDepth 20000 in
theorem gL_law_X6_trace : GoodIn wsL_law (wsV RL 126 RX6 yX6_trace wsX6_trace) := goodIn_app (goodIn_of _ (by decide +kernel)) ggL_law_X6_trace
set_option maxRecDepth 20000 in
theorem ggL_law_X7_trace : GoodIn wsL_law wsX7_trace := goodIn_r _ [771, 393, 86, 629, 304, 305, 5, 306, 842, 843, 844, 845, 846, 847, 848, 849, 850, 851, 852] (by decide +kernel) (by decide +kernel)
set_option maxRecDepth 20000 in
theorem gL_law_X7_trace : GoodIn wsL_law (wsV RL 129 RX7 yX7_trace wsX7_trace) := goodIn_app (goodIn_of _ (by decide +kernel)) ggL_law_X7_trace
set_option maxRecDepth 20000 in
theorem ggL_law_X6_use : GoodIn wsL_law wsX6_use := goodIn_r _ [775, 15, 838, 839, 840, 841, 853, 854, 855, 856, 857, 858, 859, 860, 861] (by decide +kernel) (by decide +kernel)
set_option maxRecDepth 20000 in
theorem gL_law_X6_use : GoodIn wsL_law (wsV RL 130 RX6 yX6_use wsX6_use) := goodIn_app (goodIn_of _ (by decide +kernel)) ggL_law_X6_use
set_option maxRecDepth 20000 in
theorem ggL_law_X7_use : GoodIn wsL_law wsX7_use := goodIn_r _ [779, 86, 842, 843, 844, 845, 846, 847, 848, 849, 850, 851, 852] (by decide +kernel) (by decide +kernel)
set_option maxRecDepth 20000 in
theorem gL_law_X7_use : GoodIn wsL_law (wsV RL 134 RX7 yX7_use wsX7_use) := goodIn_app (goodIn_of _ (by decide +kernel)) ggL_law_X7_use
set_option maxRecDepth 20000 in
theorem ggL_law_X6_nextThread : GoodIn wsL_law wsX6_nextThread := goodIn_r _ [783, 15, 784, 467, 468, 14, 469, 39, 470, 471, 472, 473, 474, 30, 261, 475, 476, 477, 478, 479, 480, 481, 45, 482, 65, 271, 483, 484, 485, 486, 38, 487, 488, 489, 490, 491, 492, 493, 494, 495, 496, 838, 839, 840, 841, 853, 854, 855, 856, 857, 858, 859, 860, 861, 876, 877, 878, 879, 880, 881, 882, 883, 884, 885, 886] (by decide +kernel) (by decide +kernel)
set_option maxRecDepth 20000 in
theorem gL_law_X6_nextThread : GoodIn wsL_law (wsV RL 135 RX6 yX6_nextThread wsX6_nextThread) := goodIn_app (goodIn_of _ (by decide +kernel)) ggL_law_X6_nextThread
set_option maxRecDepth 20000 in
theorem ggL_law_X7_nextThread : GoodIn wsL_law wsX7_nextThread := goodIn_r _ [788, 629, 561, 562, 563, 5, 564, 87, 86, 565, 566, 567, 568, 90, 91, 92, 401, 402, 403, 404, 553, 554, 555, 556, 569, 570, 571, 572, 573, 574, 575, 576, 577, 578, 579, 580, 842, 843, 844, 845, 846, 847, 848, 849, 850, 851, 852] (by decide +kernel) (by decide +kernel)
set_option maxRecDepth 20000 in
theorem gL_law_X7_nextThread : GoodIn wsL_law (wsV RL 138 RX7 yX7_nextThread wsX7_nextThread) := goodIn_app (goodIn_of _ (by decide +kernel)) ggL_law_X7_nextThread
set_option maxRecDepth 20000 in
theorem ggL_law_X6_cyclesLeft : GoodIn wsL_law wsX6_cyclesLeft := goodIn_r _ [792, 15, 793, 794, 795, 2, 796, 16, 797, 254, 255, 14, 256, 30, 34, 36, 257, 258, 259, 260, 37, 38, 39, 43, 261, 262, 263, 264, 265, 45, 266, 64, 267, 65, 268, 269, 270, 271, 66, 272, 273, 274, 275, 276, 277, 278, 33, 279, 50, 280, 51, 281, 282, 283, 42, 284, 60, 285, 286, 287, 798, 799, 800, 801, 470, 458, 459, 460, 461, 497, 498, 499, 500, 501, 502, 503, 504, 479, 480, 481, 482, 505, 506, 507, 508, 475, 476, 477, 478, 466, 467, 468, 469, 471, 472, 473, 474, 483, 484, 485, 486, 487, 488, 489, 490, 491, 492, 493, 494, 495, 496, 509, 510, 511, 512, 513, 514, 515, 516, 517, 148, 149, 150, 349, 350, 104, 105, 106, 518, 519, 520, 521, 522, 523, 524, 525, 526, 152, 153, 527, 528, 529, 530, 102, 103, 531, 532, 533, 534, 535, 536, 537, 538, 539, 540, 541, 542, 543, 544, 838, 839, 840, 841, 853, 854, 855, 856, 857, 858, 859, 860, 861, 876, 877, 878, 879, 880, 881, 882, 883, 884, 885, 886, 871, 872, 873, 874, 875] (by decide +kernel) (by decide +kernel)
set_option maxRecDepth 20000 in
theorem gL_law_X6_cyclesLeft : GoodIn wsL_law (wsV RL 139 RX6 yX6_cyclesLeft wsX6_cyclesLeft) := goodIn_app (goodIn_of _ (by decide +kernel)) ggL_law_X6_cyclesLeft
set_option maxRecDepth 20000 in
theorem ggL_law_X7_cyclesLeft : GoodIn wsL_law wsX7_cyclesLeft := goodIn_r _ [805, 86, 806, 807, 808, 5, 809, 561, 562, 563, 564, 87, 810, 811, 812, 813, 629, 549, 550, 551, 552, 553, 554, 555, 556, 90, 91, 92, 581, 582, 583, 584, 565, 566, 567, 568, 401, 402, 403, 404, 569, 570, 571, 572, 573, 574, 575, 576, 585, 586, 587, 588, 589, 590, 591, 592, 593, 594, 595, 596, 304, 305, 306, 397, 398, 399, 400, 597, 598, 599, 600, 577, 578, 579, 580, 842, 843, 844, 845, 846, 847, 848, 849, 850, 851, 852] (by decide +kernel) (by decide +kernel)
set_option maxRecDepth 20000 in
theorem gL_law_X7_cyclesLeft : GoodIn wsL_law (wsV RL 142 RX7 yX7_cyclesLeft wsX7_cyclesLeft) := goodIn_app (goodIn_of _ (by decide +kernel)) ggL_law_X7_cyclesLeft
set_option maxRecDepth 20000 in
theorem ggL_law_X6_cyclesIf : GoodIn wsL_law wsX6_cyclesIf := goodIn_r _ [817, 379, 104, 105, 2, 106, 793, 794, 795, 796, 16, 15, 797, 254, 255, 14, 256, 30, 34, 36, 257, 258, 259, 260, 37, 38, 39, 43, 261, 262, 263, 264, 265, 45, 266, 64, 267, 65, 268, 269, 270, 271, 66, 272, 273, 274, 275, 276, 277, 278, 33, 279, 50, 280, 51, 281, 282, 283, 42, 284, 60, 285, 286, 287, 798, 799, 800, 801, 470, 458, 459, 460, 461, 497, 498, 499, 500, 501, 502, 503, 504, 479, 480, 481, 482, 505, 506, 507, 508, 475, 476, 477, 478, 466, 467, 468, 469, 471, 472, 473, 474, 483, 484, 485, 486, 487, 488, 489, 490, 491, 492, 493, 494, 495, 496, 509, 510, 511, 512, 513, 514, 515, 516, 517, 148, 149, 150, 349, 350, 518, 519, 520, 521, 522, 523, 524, 525, 526, 152, 153, 527, 528, 529, 530, 102, 103, 531, 532, 533, 534, 535, 536, 537, 538, 539, 540, 541, 542, 543, 544, 838, 839, 840, 841, 853, 854, 855, 856, 857, 858, 859, 860, 861, 876, 877, 878, 879, 880, 881, 882, 883, 884, 885, 886, 871, 872, 873, 874, 875] (by decide +kernel) (by decide +kernel)
set_option maxRecDepth 20000 in
theorem gL_law_X6_cyclesIf : GoodIn wsL_law (wsV RL 143 RX6 yX6_cyclesIf wsX6_cyclesIf) := goodIn_app (goodIn_of _ (by decide +kernel)) ggL_law_X6_cyclesIf
set_option maxRecDepth 20000 in
theorem ggL_law_X7_cyclesIf : GoodIn wsL_law wsX7_cyclesIf := goodIn_r _ [821, 393, 304, 305, 5, 306, 806, 807, 808, 809, 86, 561, 562, 563, 564, 87, 810, 811, 812, 813, 629, 549, 550, 551, 552, 553, 554, 555, 556, 90, 91, 92, 581, 582, 583, 584, 565, 566, 567, 568, 401, 402, 403, 404, 569, 570, 571, 572, 573, 574, 575, 576, 585, 586, 587, 588, 589, 590, 591, 592, 593, 594, 595, 596, 397, 398, 399, 400, 597, 598, 599, 600, 577, 578, 579, 580, 842, 843, 844, 845, 846, 847, 848, 849, 850, 851, 852] (by decide +kernel) (by decide +kernel)
set_option maxRecDepth 20000 in
theorem gL_law_X7_cyclesIf : GoodIn wsL_law (wsV RL 146 RX7 yX7_cyclesIf wsX7_cyclesIf) := goodIn_app (goodIn_of _ (by decide +kernel)) ggL_law_X7_cyclesIf
set_option maxRecDepth 20000 in
theorem ggL_law_X6_bestLend : GoodIn wsL_law wsX6_bestLend := goodIn_r _ [825, 98, 15, 793, 794, 795, 2, 796, 16, 797, 254, 255, 14, 256, 30, 34, 36, 257, 258, 259, 260, 37, 38, 39, 43, 261, 262, 263, 264, 265, 45, 266, 64, 267, 65, 268, 269, 270, 271, 66, 272, 273, 274, 275, 276, 277, 278, 33, 279, 50, 280, 51, 281, 282, 283, 42, 284, 60, 285, 286, 287, 798, 799, 800, 801, 470, 458, 459, 460, 461, 497, 498, 499, 500, 501, 502, 503, 504, 479, 480, 481, 482, 505, 506, 507, 508, 475, 476, 477, 478, 466, 467, 468, 469, 471, 472, 473, 474, 483, 484, 485, 486, 487, 488, 489, 490, 491, 492, 493, 494, 495, 496, 509, 510, 511, 512, 513, 514, 515, 516, 517, 148, 149, 150, 349, 350, 104, 105, 106, 518, 519, 520, 521, 522, 523, 524, 525, 526, 152, 153, 527, 528, 529, 530, 102, 103, 531, 532, 533, 534, 535, 536, 537, 538, 539, 540, 541, 542, 543, 544, 838, 839, 840, 841, 853, 854, 855, 856, 857, 858, 859, 860, 861, 876, 877, 878, 879, 880, 881, 882, 883, 884, 885, 886, 871, 872, 873, 874, 875] (by decide +kernel) (by decide +kernel)
set_option maxRecDepth 20000 in
theorem gL_law_X6_bestLend : GoodIn wsL_law (wsV RL 147 RX6 yX6_bestLend wsX6_bestLend) := goodIn_app (goodIn_of _ (by decide +kernel)) ggL_law_X6_bestLend
set_option maxRecDepth 20000 in
theorem ggL_law_X7_bestLend : GoodIn wsL_law wsX7_bestLend := goodIn_r _ [829, 629, 86, 806, 807, 808, 5, 809, 561, 562, 563, 564, 87, 810, 811, 812, 813, 549, 550, 551, 552, 553, 554, 555, 556, 90, 91, 92, 581, 582, 583, 584, 565, 566, 567, 568, 401, 402, 403, 404, 569, 570, 571, 572, 573, 574, 575, 576, 585, 586, 587, 588, 589, 590, 591, 592, 593, 594, 595, 596, 304, 305, 306, 397, 398, 399, 400, 597, 598, 599, 600, 577, 578, 579, 580, 842, 843, 844, 845, 846, 847, 848, 849, 850, 851, 852] (by decide +kernel) (by decide +kernel)
set_option maxRecDepth 20000 in
theorem gL_law_X7_bestLend : GoodIn wsL_law (wsV RL 150 RX7 yX7_bestLend wsX7_bestLend) := goodIn_app (goodIn_of _ (by decide +kernel)) ggL_law_X7_bestLend
set_option maxRecDepth 20000 in
theorem ggL_law_X6_finalWord : GoodIn wsL_law wsX6_finalWord := goodIn_r _ [833, 97, 15, 98, 16, 409, 410, 2, 411, 104, 105, 106, 793, 794, 795, 796, 797, 254, 255, 14, 256, 30, 34, 36, 257, 258, 259, 260, 37, 38, 39, 43, 261, 262, 263, 264, 265, 45, 266, 64, 267, 65, 268, 269, 270, 271, 66, 272, 273, 274, 275, 276, 277, 278, 33, 279, 50, 280, 51, 281, 282, 283, 42, 284, 60, 285, 286, 287, 798, 799, 800, 801, 470, 458, 459, 460, 461, 497, 498, 499, 500, 501, 502, 503, 504, 479, 480, 481, 482, 505, 506, 507, 508, 475, 476, 477, 478, 466, 467, 468, 469, 471, 472, 473, 474, 483, 484, 485, 486, 487, 488, 489, 490, 491, 492, 493, 494, 495, 496, 509, 510, 511, 512, 513, 514, 515, 516, 517, 148, 149, 150, 349, 350, 518, 519, 520, 521, 522, 523, 524, 525, 526, 152, 153, 527, 528, 529, 530, 102, 103, 531, 532, 533, 534, 535, 536, 537, 538, 539, 540, 541, 542, 543, 544, 838, 839, 840, 841, 853, 854, 855, 856, 857, 858, 859, 860, 861, 876, 877, 878, 879, 880, 881, 882, 883, 884, 885, 886, 871, 872, 873, 874, 875] (by decide +kernel) (by decide +kernel)
set_option maxRecDepth 20000 in
theorem gL_law_X6_finalWord : GoodIn wsL_law (wsV RL 151 RX6 yX6_finalWord wsX6_finalWord) := goodIn_app (goodIn_of _ (by decide +kernel)) ggL_law_X6_finalWord
set_option maxRecDepth 20000 in
theorem ggL_law_X7_finalWord : GoodIn wsL_law wsX7_finalWord := goodIn_r _ [837, 293, 86, 629, 304, 305, 5, 306, 561, 562, 563, 564, 87, 810, 811, 812, 813, 549, 550, 551, 552, 553, 554, 555, 556, 90, 91, 92, 581, 582, 583, 584, 565, 566, 567, 568, 401, 402, 403, 404, 569, 570, 571, 572, 573, 574, 575, 576, 585, 586, 587, 588, 589, 590, 591, 592, 593, 594, 595, 596, 397, 398, 399, 400, 597, 598, 599, 600, 577, 578, 579, 580, 842, 843, 844, 845, 846, 847, 848, 849, 850, 851, 852] (by decide +kernel) (by decide +kernel)
set_option maxRecDepth 20000 in
theorem gL_law_X7_finalWord : GoodIn wsL_law (wsV RL 154 RX7 yX7_finalWord wsX7_finalWord) := goodIn_app (goodIn_of _ (by decide +kernel)) ggL_law_X7_finalWord
