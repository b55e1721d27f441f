set_option maxRecDepth 20000 in
theorem ggL_law_X6_init : GoodIn wsL_law wsX6_init := goodIn_r _ [8, 9, 10, 11, 12, 13, 14, 15, 16, 17, 18, 19, 20, 21, 22, 23, 24, 25, 26, 27, 28, 29, 30, 31, 32, 33, 34, 35, 36, 37, 38, 39, 40, 41, 42, 43, 44, 45, 46, 47, 48, 49, 50, 51, 52, 53, 54, 55, 56, 57, 58, 59, 60, 61, 62, 63, 64, 65, 66, 67, 68, 69, 70, 71, 72, 73, 74, 75, 76, 77, 78, 79, 80, 81, 853, 854, 855, 856, 857, 858, 859, 860, 861, 838, 839, 840, 841, 862, 863, 864, 865, 866, 867, 868, 869, 870, 871, 872, 873, 874, 875, 876, 877, 878, 879, 880, 881, 882, 883, 884, 885, 886] (by decide +kernel) (by decide +kernel)
set_option maxRecDepth 20000 in
theorem gL_law_X6_init : GoodIn wsL_law (wsX6_init) := ggL_law_X6_init
set_option maxRecDepth 20000 in
theorem ggL_law_X7_init : GoodIn wsL_law wsX7_init := goodIn_r _ [84, 85, 10, 11, 35, 86, 87, 88, 89, 90, 91, 5, 92, 842, 843, 844, 845, 846, 847, 848, 849, 850, 851, 852] (by decide +kernel) (by decide +kernel)
set_option maxRecDepth 20000 in
theorem gL_law_X7_init : GoodIn wsL_law (wsX7_init) := ggL_law_X7_init
set_option maxRecDepth 20000 in
theorem ggL_law_X6_assemble : GoodIn wsL_law wsX6_assemble := goodIn_r _ [96, 97, 24, 98, 99, 100, 20, 15, 101, 102, 2, 103, 104, 105, 106, 107, 108, 109, 23, 110, 111, 112, 113, 114, 115, 116, 117, 118, 78, 119, 120, 121, 122, 123, 124, 125, 126, 127, 128, 129, 130, 131, 132, 133, 134, 135, 136, 137, 138, 139, 140, 141, 142, 143, 144, 145, 146, 147, 148, 149, 150, 151, 152, 153, 154, 155, 156, 157, 158, 159, 160, 161, 162, 163, 164, 165, 166, 167, 168, 169, 170, 171, 172, 173, 174, 175, 176, 177, 178, 179, 180, 181, 182, 183, 184, 185, 186, 187, 188, 189, 190, 191, 192, 193, 194, 195, 196, 197, 198, 199, 200, 201, 202, 203, 204, 205, 206, 207, 208, 209, 210, 211, 80, 212, 213, 214, 215, 216, 217, 218, 219, 220, 221, 222, 223, 224, 225, 226, 227, 228, 229, 230, 231, 232, 233, 234, 235, 236, 237, 238, 239, 240, 241, 242, 243, 244, 245, 246, 247, 248, 19, 249, 72, 250, 251, 252, 253, 254, 255, 14, 256, 30, 34, 36, 257, 258, 259, 260, 37, 38, 39, 43, 261, 262, 263, 264, 265, 45, 266, 64, 267, 65, 268, 269, 270, 271, 66, 272, 273, 274, 275, 276, 277, 278, 33, 279, 50, 280, 51, 281, 282, 283, 42, 284, 60, 285, 286, 287, 288, 838, 839, 840, 841, 865, 866, 867, 868, 869, 870, 853, 854, 855, 856, 857, 858, 859, 860, 861, 871, 872, 862, 863, 864, 876, 877, 878, 879, 880, 881, 882, 883, 884, 885, 886, 873, 874, 875] (by decide +kernel) (by decide +kernel)
set_option maxRecDepth 20000 in
theorem gL_law_X6_assemble : GoodIn wsL_law (wsV RL 13 RX6 yX6_assemble wsX6_assemble) := goodIn_app (goodIn_of _ (by decide +kernel)) ggL_law_X6_assemble
set_option maxRecDepth 20000 in
theorem ggL_law_X7_assemble : GoodIn wsL_law wsX7_assemble := goodIn_r _ [292, 293, 294, 295, 89, 296, 297, 86, 298, 299, 300, 301, 302, 5, 303, 304, 305, 306, 307, 308, 309, 310, 311, 312, 313, 314, 315, 316, 317, 318, 319, 320, 321, 322, 323, 324, 325, 326, 327, 328, 329, 330, 331, 332, 333, 334, 335, 336, 337, 338, 339, 340, 341, 342, 343, 88, 842, 843, 844, 845, 846, 847, 848, 849, 850, 851, 852] (by decide +kernel) (by decide +kernel)
set_option maxRecDepth 20000 in
theorem gL_law_X7_assemble : GoodIn wsL_law (wsV RL 17 RX7 yX7_assemble wsX7_assemble) := goodIn_app (goodIn_of _ (by decide +kernel)) ggL_law_X7_assemble
set_option maxRecDepth 20000 in
theorem ggL_law_X6_start : GoodIn wsL_law wsX6_start := goodIn_r _ [347, 97, 20, 15, 348, 349, 2, 350, 104, 105, 106, 101, 102, 103, 246, 247, 248, 19, 249, 72, 250, 251, 252, 152, 149, 153, 253, 254, 255, 14, 256, 30, 34, 36, 257, 258, 259, 260, 37, 38, 39, 43, 261, 262, 263, 264, 265, 45, 266, 64, 267, 65, 268, 269, 270, 271, 66, 272, 273, 274, 275, 276, 277, 278, 33, 279, 50, 280, 51, 281, 282, 283, 42, 284, 60, 285, 286, 287, 351, 352, 353, 354, 355, 54, 55, 56, 838, 839, 840, 841, 853, 854, 855, 856, 857, 858, 859, 860, 861, 876, 877, 878, 879, 880, 881, 882, 883, 884, 885, 886, 862, 863, 864, 871, 872, 873, 874, 875] (by decide +kernel) (by decide +kernel)
set_option maxRecDepth 20000 in
theorem gL_law_X6_start : GoodIn wsL_law (wsV RL 18 RX6 yX6_start wsX6_start) := goodIn_app (goodIn_of _ (by decide +kernel)) ggL_law_X6_start
set_option maxRecDepth 20000 in
theorem ggL_law_X7_start : GoodIn wsL_law wsX7_start := goodIn_r _ [359, 293, 86, 360, 361, 5, 362, 304, 305, 306, 301, 302, 303, 339, 340, 341, 342, 343, 88, 90, 91, 92, 842, 843, 844, 845, 846, 847, 848, 849, 850, 851, 852] (by decide +kernel) (by decide +kernel)
set_option maxRecDepth 20000 in
theorem gL_law_X7_start : GoodIn wsL_law (wsV RL 22 RX7 yX7_start wsX7_start) := goodIn_app (goodIn_of _ (by decide +kernel)) ggL_law_X7_start
set_option maxRecDepth 20000 in
theorem ggL_law_X6_halt : GoodIn wsL_law wsX6_halt := goodIn_r _ [366, 97, 20, 15, 348, 349, 2, 350, 104, 105, 106, 246, 247, 248, 19, 249, 72, 250, 251, 252, 152, 149, 153, 253, 254, 255, 14, 256, 30, 34, 36, 257, 258, 259, 260, 37, 38, 39, 43, 261, 262, 263, 264, 265, 45, 266, 64, 267, 65, 268, 269, 270, 271, 66, 272, 273, 274, 275, 276, 277, 278, 33, 279, 50, 280, 51, 281, 282, 283, 42, 284, 60, 285, 286, 287, 367, 368, 369, 370, 838, 839, 840, 841, 853, 854, 855, 856, 857, 858, 859, 860, 861, 876, 877, 878, 879, 880, 881, 882, 883, 884, 885, 886, 862, 863, 864, 871, 872, 873, 874, 875] (by decide +kernel) (by decide +kernel)
set_option maxRecDepth 20000 in
theorem gL_law_X6_halt : GoodIn wsL_law (wsV RL 23 RX6 yX6_halt wsX6_halt) := goodIn_app (goodIn_of _ (by decide +kernel)) ggL_law_X6_halt
set_option maxRecDepth 20000 in
theorem ggL_law_X7_halt : GoodIn wsL_law wsX7_halt := goodIn_r _ [374, 293, 86, 360, 361, 5, 362, 304, 305, 306, 339, 340, 341, 342, 343, 88, 90, 91, 92, 842, 843, 844, 845, 846, 847, 848, 849, 850, 851, 852] (by decide +kernel) (by decide +kernel)
set_option maxRecDepth 20000 in
theorem gL_law_X7_halt : GoodIn wsL_law (wsV RL 26 RX7 yX7_halt wsX7_halt) := goodIn_app (goodIn_of _ (by decide +kernel)) ggL_law_X7_halt
set_option maxRecDepth 20000 in
theorem ggL_law_X6_setRegister : GoodIn wsL_law wsX6_setRegister := goodIn_r _ [378, 97, 379, 20, 15, 348, 349, 2, 350, 104, 105, 106, 380, 381, 382, 383, 384, 385, 246, 247, 248, 19, 249, 72, 250, 251, 252, 152, 149, 153, 253, 254, 255, 14, 256, 30, 34, 36, 257, 258, 259, 260, 37, 38, 39, 43, 261, 262, 263, 264, 265, 45, 266, 64, 267, 65, 268, 269, 270, 271, 66, 272, 273, 274, 275, 276, 277, 278, 33, 279, 50, 280, 51, 281, 282, 283, 42, 284, 60, 285, 286, 287, 386, 387, 388, 838, 839, 840, 841, 853, 854, 855, 856, 857, 858, 859, 860, 861, 876, 877, 878, 879, 880, 881, 882, 883, 884, 885, 886, 862, 863, 864, 871, 872, 873, 874, 875] (by decide +kernel) (by decide +kernel)
set_option maxRecDepth 20000 in
theorem gL_law_X6_setRegister : GoodIn wsL_law (wsV RL 27 RX6 yX6_setRegister wsX6_setRegister) := goodIn_app (goodIn_of _ (by decide +kernel)) ggL_law_X6_setRegister
set_option maxRecDepth 20000 in
theorem ggL_law_X7_setRegister : GoodIn wsL_law wsX7_setRegister := goodIn_r _ [392, 293, 393, 360, 361, 5, 362, 304, 305, 306, 394, 395, 396, 339, 340, 341, 342, 343, 88, 86, 397, 398, 399, 400, 90, 91, 92, 401, 402, 403, 404, 842, 843, 844, 845, 846, 847, 848, 849, 850, 851, 852] (by decide +kernel) (by decide +kernel)
set_option maxRecDepth 20000 in
theorem gL_law_X7_setRegister : GoodIn wsL_law (wsV RL 31 RX7 yX7_setRegister wsX7_setRegister) := goodIn_app (goodIn_of _ (by decide +kernel)) ggL_law_X7_setRegister
set_option maxRecDepth 20000 in
theorem ggL_law_X6_setWord : GoodIn wsL_law wsX6_setWord := goodIn_r _ [408, 97, 379, 20, 15, 409, 410, 2, 411, 104, 105, 106, 383, 384, 385, 246, 247, 248, 19, 249, 72, 250, 251, 252, 152, 149, 153, 253, 254, 255, 14, 256, 30, 34, 36, 257, 258, 259, 260, 37, 38, 39, 43, 261, 262, 263, 264, 265, 45, 266, 64, 267, 65, 268, 269, 270, 271, 66, 272, 273, 274, 275, 276, 277, 278, 33, 279, 50, 280, 51, 281, 282, 283, 42, 284, 60, 285, 286, 287, 386, 387, 388, 838, 839, 840, 841, 853, 854, 855, 856, 857, 858, 859, 860, 861, 862, 863, 864, 876, 877, 878, 879, 880, 881, 882, 883, 884, 885, 886, 871, 872, 873, 874, 875] (by decide +kernel) (by decide +kernel)
set_option maxRecDepth 20000 in
theorem gL_law_X6_setWord : GoodIn wsL_law (wsV RL 32 RX6 yX6_setWord wsX6_setWord) := goodIn_app (goodIn_of _ (by decide +kernel)) ggL_law_X6_setWord
set_option maxRecDepth 20000 in
theorem ggL_law_X7_setWord : GoodIn wsL_law wsX7_setWord := goodIn_r _ [415, 293, 393, 86, 304, 305, 5, 306, 394, 395, 396, 339, 340, 341, 342, 343, 88, 842, 843, 844, 845, 846, 847, 848, 849, 850, 851, 852] (by decide +kernel) (by decide +kernel)
set_option maxRecDepth 20000 in
theorem gL_law_X7_setWord : GoodIn wsL_law (wsV RL 35 RX7 yX7_setWord wsX7_setWord) := goodIn_app (goodIn_of _ (by decide +kernel)) ggL_law_X7_setWord
set_option maxRecDepth 20000 in
theorem ggL_law_X6_setSlot : GoodIn wsL_law wsX6_setSlot := goodIn_r _ [419, 97, 20, 15, 420, 421, 2, 422, 104, 105, 106, 348, 349, 350, 246, 247, 248, 19, 249, 72, 250, 251, 252, 152, 149, 153, 253, 254, 255, 14, 256, 30, 34, 36, 257, 258, 259, 260, 37, 38, 39, 43, 261, 262, 263, 264, 265, 45, 266, 64, 267, 65, 268, 269, 270, 271, 66, 272, 273, 274, 275, 276, 277, 278, 33, 279, 50, 280, 51, 281, 282, 283, 42, 284, 60, 285, 286, 287, 386, 387, 388, 838, 839, 840, 841, 853, 854, 855, 856, 857, 858, 859, 860, 861, 862, 863, 864, 876, 877, 878, 879, 880, 881, 882, 883, 884, 885, 886, 871, 872, 873, 874, 875] (by decide +kernel) (by decide +kernel)
set_option maxRecDepth 20000 in
theorem gL_law_X6_setSlot : GoodIn wsL_law (wsV RL 36 RX6 yX6_setSlot wsX6_setSlot) := goodIn_app (goodIn_of _ (by decide +kernel)) ggL_law_X6_setSlot
set_option maxRecDepth 20000 in
theorem ggL_law_X7_setSlot : GoodIn wsL_law wsX7_setSlot := goodIn_r _ [426, 293, 86, 304, 305, 5, 306, 360, 361, 362, 339, 340, 341, 342, 343, 88, 842, 843, 844, 845, 846, 847, 848, 849, 850, 851, 852] (by decide +kernel) (by decide +kernel)
set_option maxRecDepth 20000 in
theorem gL_law_X7_setSlot : GoodIn wsL_law (wsV RL 39 RX7 yX7_setSlot wsX7_setSlot) := goodIn_app (goodIn_of _ (by decide +kernel)) ggL_law_X7_setSlot
set_option maxRecDepth 20000 in
theorem ggL_law_X6_set : GoodIn wsL_law wsX6_set := goodIn_r _ [430, 97, 379, 20, 15, 431, 432, 2, 433, 104, 105, 106, 246, 247, 248, 19, 249, 72, 250, 251, 252, 152, 149, 153, 253, 254, 255, 14, 256, 30, 34, 36, 257, 258, 259, 260, 37, 38, 39, 43, 261, 262, 263, 264, 265, 45, 266, 64, 267, 65, 268, 269, 270, 271, 66, 272, 273, 274, 275, 276, 277, 278, 33, 279, 50, 280, 51, 281, 282, 283, 42, 284, 60, 285, 286, 287, 386, 387, 388, 838, 839, 840, 841, 853, 854, 855, 856, 857, 858, 859, 860, 861, 862, 863, 864, 876, 877, 878, 879, 880, 881, 882, 883, 884, 885, 886, 871, 872, 873, 874, 875] (by decide +kernel) (by decide +kernel)
set_option maxRecDepth 20000 in
theorem gL_law_X6_set : GoodIn wsL_law (wsV RL 40 RX6 yX6_set wsX6_set) := goodIn_app (goodIn_of _ (by decide +kernel)) ggL_law_X6_set
set_option maxRecDepth 20000 in
theorem ggL_law_X7_set : GoodIn wsL_law wsX7_set := goodIn_r _ [437, 293, 393, 86, 304, 305, 5, 306, 339, 340, 341, 342, 343, 88, 842, 843, 844, 845, 846, 847, 848, 849, 850, 851, 852] (by decide +kernel) (by decide +kernel)
set_option maxRecDepth 20000 in
theorem gL_law_X7_set : GoodIn wsL_law (wsV RL 43 RX7 yX7_set wsX7_set) := goodIn_app (goodIn_of _ (by decide +kernel)) ggL_law_X7_set
set_option maxRecDepth 20000 in
theorem ggL_law_X6_setBreakpoint : GoodIn wsL_law wsX6_setBreakpoint := goodIn_r _ [441, 97, 20, 15, 101, 102, 2, 103, 104, 105, 106, 246, 247, 248, 19, 249, 72, 250, 251, 252, 152, 149, 153, 253, 254, 255, 14, 256, 30, 34, 36, 257, 258, 259, 260, 37, 38, 39, 43, 261, 262, 263, 264, 265, 45, 266, 64, 267, 65, 268, 269, 270, 271, 66, 272, 273, 274, 275, 276, 277, 278, 33, 279, 50, 280, 51, 281, 282, 283, 42, 284, 60, 285, 286, 287, 442, 443, 444, 445, 838, 839, 840, 841, 853, 854, 855, 856, 857, 858, 859, 860, 861, 862, 863, 864, 876, 877, 878, 879, 880, 881, 882, 883, 884, 885, 886, 871, 872, 873, 874, 875] (by decide +kernel) (by decide +kernel)
set_option maxRecDepth 20000 in
theorem gL_law_X6_setBreakpoint : GoodIn wsL_law (wsV RL 44 RX6 yX6_setBreakpoint wsX6_setBreakpoint) := goodIn_app (goodIn_of _ (by decide +kernel)) ggL_law_X6_setBreakpoint
set_option maxRecDepth 20000 in
theorem ggL_law_X7_setBreakpoint : GoodIn wsL_law wsX7_setBreakpoint := goodIn_r _ [449, 293, 86, 301, 302, 5, 303, 304, 305, 306, 339, 340, 341, 342, 343, 88, 842, 843, 844, 845, 846, 847, 848, 849, 850, 851, 852] (by decide +kernel) (by decide +kernel)
