set_option maxRecDepth 20000 in
theorem ggL_acts_X6_set : GoodIn wsL_acts wsX6_set := goodIn_r _ [131, 8, 104, 9, 10, 132, 133, 6, 134, 14, 15, 16, 20, 21, 22, 23, 24, 25, 26, 27, 28, 29, 30, 31, 32, 33, 34, 35, 36, 37, 38, 39, 40, 41, 42, 43, 44, 45, 46, 47, 48, 49, 50, 51, 52, 53, 54, 55, 56, 57, 58, 59, 60, 61, 62, 63, 64, 65, 66, 67, 68, 69, 70, 71, 72, 73, 74, 75, 76, 77, 78, 79, 80, 81, 82, 83, 111, 112, 113, 419, 420, 421, 422, 423, 424, 425, 426, 427, 428, 429, 430, 431, 443, 444, 445, 432, 433, 434, 435, 436, 437, 438, 439, 440, 441, 442, 446, 447, 448, 449, 450] (by decide +kernel) (by decide +kernel)
set_option maxRecDepth 20000 in
theorem gL_acts_X6_set : GoodIn wsL_acts (wsV RL 47 RX6 yX6_set wsX6_set) := goodIn_app (goodIn_of _ (by decide +kernel)) ggL_acts_X6_set
set_option maxRecDepth 20000 in
theorem ggL_acts_X6_setBreakpoint : GoodIn wsL_acts wsX6_setBreakpoint := goodIn_r _ [138, 8, 9, 10, 17, 18, 6, 19, 14, 15, 16, 20, 21, 22, 23, 24, 25, 26, 27, 28, 29, 30, 31, 32, 33, 34, 35, 36, 37, 38, 39, 40, 41, 42, 43, 44, 45, 46, 47, 48, 49, 50, 51, 52, 53, 54, 55, 56, 57, 58, 59, 60, 61, 62, 63, 64, 65, 66, 67, 68, 69, 70, 71, 72, 73, 74, 75, 76, 77, 78, 79, 80, 81, 82, 83, 139, 140, 141, 142, 419, 420, 421, 422, 423, 424, 425, 426, 427, 428, 429, 430, 431, 443, 444, 445, 432, 433, 434, 435, 436, 437, 438, 439, 440, 441, 442, 446, 447, 448, 449, 450] (by decide +kernel) (by decide +kernel)
set_option maxRecDepth 20000 in
theorem gL_acts_X6_setBreakpoint : GoodIn wsL_acts (wsV RL 50 RX6 yX6_setBreakpoint wsX6_setBreakpoint) := goodIn_app (goodIn_of _ (by decide +kernel)) ggL_acts_X6_setBreakpoint
set_option maxRecDepth 20000 in
theorem ggL_acts_X6_undo : GoodIn wsL_acts wsX6_undo := goodIn_r _ [146, 9, 10, 147, 148, 149, 23, 150, 27, 151, 26, 25, 32, 33, 34, 35, 36, 37, 38, 39, 40, 41, 42, 43, 44, 45, 46, 47, 48, 49, 50, 51, 52, 53, 54, 55, 56, 57, 58, 59, 60, 61, 62, 63, 64, 65, 66, 67, 68, 69, 70, 71, 72, 73, 74, 75, 76, 77, 78, 79, 80, 81, 82, 83, 419, 420, 421, 422, 443, 444, 445, 423, 424, 425, 426, 427, 428, 429, 430, 431, 432, 433, 434, 435, 436, 437, 438, 439, 440, 441, 442, 446, 447, 448, 449, 450] (by decide +kernel) (by decide +kernel)
set_option maxRecDepth 20000 in
theorem gL_acts_X6_undo : GoodIn wsL_acts (wsV RL 54 RX6 yX6_undo wsX6_undo) := goodIn_app (goodIn_of _ (by decide +kernel)) ggL_acts_X6_undo
set_option maxRecDepth 20000 in
theorem ggL_acts_X6_clearText : GoodIn wsL_acts wsX6_clearText := goodIn_r _ [155, 156, 419, 420, 421, 422, 451, 452, 453, 454, 455, 456] (by decide +kernel) (by decide +kernel)
set_option maxRecDepth 20000 in
theorem gL_acts_X6_clearText : GoodIn wsL_acts (wsV RL 58 RX6 yX6_clearText wsX6_clearText) := goodIn_app (goodIn_of _ (by decide +kernel)) ggL_acts_X6_clearText
set_option maxRecDepth 20000 in
theorem ggL_acts_X6_append : GoodIn wsL_acts wsX6_append := goodIn_r _ [160, 104, 156, 161, 14, 15, 6, 16, 162, 163, 164, 165, 166, 167, 168, 419, 420, 421, 422, 451, 452, 453, 454, 455, 456] (by decide +kernel) (by decide +kernel)
set_option maxRecDepth 20000 in
theorem gL_acts_X6_append : GoodIn wsL_acts (wsV RL 13 RX6 yX6_append wsX6_append) := goodIn_app (goodIn_of _ (by decide +kernel)) ggL_acts_X6_append
set_option maxRecDepth 20000 in
theorem ggL_acts_L_types : GoodIn wsL_acts wsL_types := goodIn_r _ [172, 173, 174, 171, 175, 176, 177, 157, 158, 159, 6, 160, 104, 156, 161, 14, 15, 16, 162, 163, 164, 165, 166, 167, 168, 178, 179, 180, 419, 420, 421, 422, 451, 452, 453, 454, 455, 456] (by decide +kernel) (by decide +kernel)
set_option maxRecDepth 20000 in
theorem gL_acts_L_types : GoodIn wsL_acts (va_wsS RL 61 yL_types wsL_types) := goodIn_app (goodIn_of _ (by decide +kernel)) ggL_acts_L_types
set_option maxRecDepth 20000 in
theorem ggL_acts_X6_assemble : GoodIn wsL_acts wsX6_assemble := goodIn_r _ [184, 8, 156, 185, 186, 161, 9, 10, 17, 18, 6, 19, 14, 15, 16, 187, 188, 189, 165, 190, 191, 192, 167, 193, 194, 195, 196, 197, 168, 198, 199, 200, 201, 202, 203, 204, 205, 206, 207, 208, 209, 210, 211, 212, 213, 214, 215, 216, 217, 218, 219, 220, 221, 222, 223, 224, 225, 226, 227, 30, 228, 229, 29, 31, 230, 231, 232, 233, 234, 235, 236, 237, 238, 239, 240, 241, 242, 243, 244, 245, 246, 247, 248, 249, 250, 251, 252, 253, 254, 255, 256, 257, 258, 259, 260, 261, 262, 263, 264, 265, 266, 267, 268, 269, 270, 271, 272, 273, 274, 275, 276, 277, 278, 279, 280, 281, 282, 283, 284, 285, 286, 287, 288, 289, 290, 291, 292, 293, 294, 295, 296, 297, 298, 299, 300, 301, 302, 303, 304, 305, 306, 307, 308, 309, 310, 311, 312, 313, 314, 315, 316, 317, 318, 319, 320, 321, 322, 20, 21, 22, 23, 24, 25, 26, 27, 28, 32, 33, 34, 35, 36, 37, 38, 39, 40, 41, 42, 43, 44, 45, 46, 47, 48, 49, 50, 51, 52, 53, 54, 55, 56, 57, 58, 59, 60, 61, 62, 63, 64, 65, 66, 67, 68, 69, 70, 71, 72, 73, 74, 75, 76, 77, 78, 79, 80, 81, 82, 83, 323, 419, 420, 421, 422, 451, 452, 453, 454, 455, 456, 423, 424, 425, 426, 427, 428, 429, 430, 431, 446, 447, 443, 444, 445, 432, 433, 434, 435, 436, 437, 438, 439, 440, 441, 442, 448, 449, 450] (by decide +kernel) (by decide +kernel)
set_option maxRecDepth 20000 in
theorem gL_acts_X6_assemble : GoodIn wsL_acts (wsV RL 65 RX6 yX6_assemble wsX6_assemble) := goodIn_app (goodIn_of _ (by decide +kernel)) ggL_acts_X6_assemble
set_option maxRecDepth 20000 in
theorem ggL_acts_X6_run : GoodIn wsL_acts wsX6_run := goodIn_r _ [327, 104, 9, 10, 14, 15, 6, 16, 20, 21, 22, 23, 24, 25, 26, 27, 28, 29, 30, 31, 32, 33, 34, 35, 36, 37, 38, 39, 40, 41, 42, 43, 44, 45, 46, 47, 48, 49, 50, 51, 52, 53, 54, 55, 56, 57, 58, 59, 60, 61, 62, 63, 64, 65, 66, 67, 68, 69, 70, 71, 72, 73, 74, 75, 76, 77, 78, 79, 80, 81, 82, 83, 328, 329, 330, 331, 332, 333, 334, 335, 336, 337, 338, 339, 340, 341, 342, 343, 344, 345, 346, 347, 348, 349, 350, 351, 352, 353, 354, 355, 356, 357, 358, 359, 360, 361, 362, 363, 364, 365, 366, 367, 368, 369, 370, 12, 13, 18, 19, 371, 372, 373, 374, 375, 376, 377, 378, 379, 380, 381, 382, 383, 384, 385, 386, 387, 388, 389, 390, 391, 227, 228, 392, 393, 394, 395, 396, 397, 398, 399, 400, 401, 402, 403, 404, 405, 406, 407, 408, 409, 410, 411, 412, 413, 414, 415, 416, 417, 418, 419, 420, 421, 422, 443, 444, 445, 423, 424, 425, 426, 427, 428, 429, 430, 431, 432, 433, 434, 435, 436, 437, 438, 439, 440, 441, 442, 446, 447, 448, 449, 450] (by decide +kernel) (by decide +kernel)
set_option maxRecDepth 20000 in
theorem gL_acts_X6_run : GoodIn wsL_acts (wsV RL 68 RX6 yX6_run wsX6_run) := goodIn_app (goodIn_of _ (by decide +kernel)) ggL_acts_X6_run
theorem dL_acts_0 : decode cL_acts 0 = .ok (.iload_n 1, 1) := by decide +kernel
theorem dL_acts_1 : decode cL_acts 1 = .ok (.bipush 32, 2) := by decide +kernel
theorem dL_acts_3 : decode cL_acts 3 = .ok (.idiv, 1) := by decide +kernel
theorem dL_acts_4 : decode cL_acts 4 = .ok (.istore_n 2, 1) := by decide +kernel
theorem dL_acts_5 : decode cL_acts 5 = .ok (.iload_n 2, 1) := by decide +kernel
theorem dL_acts_6 : decode cL_acts 6 = .ok (.iconst 4, 1) := by decide +kernel
theorem dL_acts_7 : decode cL_acts 7 = .ok (.irem, 1) := by decide +kernel
theorem dL_acts_8 : decode cL_acts 8 = .ok (.istore_n 3, 1) := by decide +kernel
theorem dL_acts_9 : decode cL_acts 9 = .ok (.iload_n 1, 1) := by decide +kernel
theorem dL_acts_10 : decode cL_acts 10 = .ok (.bipush 32, 2) := by decide +kernel
theorem dL_acts_12 : decode cL_acts 12 = .ok (.irem, 1) := by decide +kernel
theorem dL_acts_13 : decode cL_acts 13 = .ok (.tableswitch 395 0 16 #[83, 83, 83, 83, 115, 121, 142, 161, 176, 176, 207, 230, 235, 235, 235, 235, 235], 83) := by decide +kernel
theorem dL_acts_96 : decode cL_acts 96 = .ok (.aload_n 0, 1) := by decide +kernel
theorem dL_acts_97 : decode cL_acts 97 = .ok (.iload_n 3, 1) := by decide +kernel
theorem dL_acts_98 : decode cL_acts 98 = .ok (.iload_n 2, 1) := by decide +kernel
theorem dL_acts_99 : decode cL_acts 99 = .ok (.iconst 4, 1) := by decide +kernel
theorem dL_acts_100 : decode cL_acts 100 = .ok (.idiv, 1) := by decide +kernel
theorem dL_acts_101 : decode cL_acts 101 = .ok (.bipush 7, 2) := by decide +kernel
theorem dL_acts_103 : decode cL_acts 103 = .ok (.irem, 1) := by decide +kernel
theorem dL_acts_104 : decode cL_acts 104 = .ok (.ifCond .ne 13, 3) := by decide +kernel
theorem dL_acts_107 : decode cL_acts 107 = .ok (.iload_n 2, 1) := by decide +kernel
theorem dL_acts_108 : decode cL_acts 108 = .ok (.bipush 28, 2) := by decide +kernel
theorem dL_acts_110 : decode cL_acts 110 = .ok (.idiv, 1) := by decide +kernel
theorem dL_acts_111 : decode cL_acts 111 = .ok (.bipush 48, 2) := by decide +kernel
theorem dL_acts_113 : decode cL_acts 113 = .ok (.irem, 1) := by decide +kernel
theorem dL_acts_114 : decode cL_acts 114 = .ok (.goto 10, 3) := by decide +kernel
theorem dL_acts_117 : decode cL_acts 117 = .ok (.iload_n 2, 1) := by decide +kernel
theorem dL_acts_118 : decode cL_acts 118 = .ok (.bipush 28, 2) := by decide +kernel
theorem dL_acts_120 : decode cL_acts 120 = .ok (.idiv, 1) := by decide +kernel
theorem dL_acts_121 : decode cL_acts 121 = .ok (.bipush 12, 2) := by decide +kernel
