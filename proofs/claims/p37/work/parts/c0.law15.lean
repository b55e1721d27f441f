set_option maxRecDepth 20000 in
theorem ggL_refuses_X6_starved : GoodIn wsL_refuses wsX6_starved := goodIn_r _ [444, 17, 11, 232, 233, 9, 234, 21, 22, 23, 472, 473, 474, 475, 482, 483, 484, 485, 486, 487, 488, 489, 490, 496, 497, 498, 499, 500, 501, 502, 503, 504, 505, 506] (by decide +kernel) (by decide +kernel)
set_option maxRecDepth 20000 in
theorem gL_refuses_X6_starved : GoodIn wsL_refuses (wsV RL 92 RX6 yX6_starved wsX6_starved) := goodIn_app (goodIn_of _ (by decide +kernel)) ggL_refuses_X6_starved
set_option maxRecDepth 20000 in
theorem ggL_refuses_X6_trace : GoodIn wsL_refuses wsX6_trace := goodIn_r _ [448, 255, 17, 21, 22, 9, 23, 449, 450, 451, 221, 452, 226, 453, 225, 223, 472, 473, 474, 475, 482, 483, 484, 485, 486, 487, 488, 489, 490, 507, 508, 509] (by decide +kernel) (by decide +kernel)
set_option maxRecDepth 20000 in
theorem gL_refuses_X6_trace : GoodIn wsL_refuses (wsV RL 99 RX6 yX6_trace wsX6_trace) := goodIn_app (goodIn_of _ (by decide +kernel)) ggL_refuses_X6_trace
set_option maxRecDepth 20000 in
theorem ggL_refuses_X6_cyclesIf : GoodIn wsL_refuses wsX6_cyclesIf := goodIn_r _ [457, 255, 21, 22, 9, 23, 458, 459, 460, 461, 462, 17, 463, 176, 177, 178, 179, 180, 181, 182, 183, 184, 185, 186, 187, 188, 189, 190, 191, 192, 193, 194, 195, 196, 197, 198, 199, 200, 201, 202, 203, 204, 205, 206, 207, 208, 209, 210, 211, 212, 213, 214, 215, 216, 217, 218, 219, 220, 221, 222, 223, 224, 225, 226, 464, 465, 466, 467, 314, 302, 303, 304, 305, 341, 342, 343, 344, 345, 346, 347, 348, 323, 324, 325, 326, 349, 350, 351, 352, 319, 320, 321, 322, 310, 311, 312, 313, 315, 316, 317, 318, 327, 328, 329, 330, 331, 332, 333, 334, 335, 336, 337, 338, 339, 340, 353, 354, 355, 356, 357, 358, 359, 360, 361, 67, 68, 69, 233, 234, 362, 363, 364, 365, 366, 367, 368, 369, 370, 71, 72, 371, 372, 373, 374, 19, 20, 375, 376, 377, 378, 379, 380, 381, 382, 383, 384, 385, 386, 387, 388, 472, 473, 474, 475, 482, 483, 484, 485, 486, 487, 488, 489, 490, 496, 497, 498, 499, 500, 501, 502, 503, 504, 505, 506, 491, 492, 507, 508, 509] (by decide +kernel) (by decide +kernel)
set_option maxRecDepth 20000 in
theorem gL_refuses_X6_cyclesIf : GoodIn wsL_refuses (wsV RL 131 RX6 yX6_cyclesIf wsX6_cyclesIf) := goodIn_app (goodIn_of _ (by decide +kernel)) ggL_refuses_X6_cyclesIf
set_option maxRecDepth 20000 in
theorem ggL_refuses_X6_finalWord : GoodIn wsL_refuses wsX6_finalWord := goodIn_r _ [471, 11, 17, 13, 462, 269, 270, 9, 271, 21, 22, 23, 458, 459, 460, 461, 463, 176, 177, 178, 179, 180, 181, 182, 183, 184, 185, 186, 187, 188, 189, 190, 191, 192, 193, 194, 195, 196, 197, 198, 199, 200, 201, 202, 203, 204, 205, 206, 207, 208, 209, 210, 211, 212, 213, 214, 215, 216, 217, 218, 219, 220, 221, 222, 223, 224, 225, 226, 464, 465, 466, 467, 314, 302, 303, 304, 305, 341, 342, 343, 344, 345, 346, 347, 348, 323, 324, 325, 326, 349, 350, 351, 352, 319, 320, 321, 322, 310, 311, 312, 313, 315, 316, 317, 318, 327, 328, 329, 330, 331, 332, 333, 334, 335, 336, 337, 338, 339, 340, 353, 354, 355, 356, 357, 358, 359, 360, 361, 67, 68, 69, 233, 234, 362, 363, 364, 365, 366, 367, 368, 369, 370, 71, 72, 371, 372, 373, 374, 19, 20, 375, 376, 377, 378, 379, 380, 381, 382, 383, 384, 385, 386, 387, 388, 472, 473, 474, 475, 482, 483, 484, 485, 486, 487, 488, 489, 490, 496, 497, 498, 499, 500, 501, 502, 503, 504, 505, 506, 491, 492, 507, 508, 509] (by decide +kernel) (by decide +kernel)
set_option maxRecDepth 20000 in
theorem gL_refuses_X6_finalWord : GoodIn wsL_refuses (wsV RL 134 RX6 yX6_finalWord wsX6_finalWord) := goodIn_app (goodIn_of _ (by decide +kernel)) ggL_refuses_X6_finalWord
theorem dL_refuses_0 : decode cL_refuses 0 = .ok (.iload_n 1, 1) := by decide +kernel
theorem dL_refuses_1 : decode cL_refuses 1 = .ok (.iconst 2, 1) := by decide +kernel
theorem dL_refuses_2 : decode cL_refuses 2 = .ok (.irem, 1) := by decide +kernel
theorem dL_refuses_3 : decode cL_refuses 3 = .ok (.ifCond .ne 9, 3) := by decide +kernel
theorem dL_refuses_6 : decode cL_refuses 6 = .ok (.iconst 4, 1) := by decide +kernel
theorem dL_refuses_7 : decode cL_refuses 7 = .ok (.iload_n 1, 1) := by decide +kernel
theorem dL_refuses_8 : decode cL_refuses 8 = .ok (.iadd, 1) := by decide +kernel
theorem dL_refuses_9 : decode cL_refuses 9 = .ok (.goto 6, 3) := by decide +kernel
theorem dL_refuses_12 : decode cL_refuses 12 = .ok (.iconst (-1), 1) := by decide +kernel
theorem dL_refuses_13 : decode cL_refuses 13 = .ok (.iload_n 1, 1) := by decide +kernel
theorem dL_refuses_14 : decode cL_refuses 14 = .ok (.isub, 1) := by decide +kernel
theorem dL_refuses_15 : decode cL_refuses 15 = .ok (.istore_n 2, 1) := by decide +kernel
theorem dL_refuses_16 : decode cL_refuses 16 = .ok (.iload_n 1, 1) := by decide +kernel
theorem dL_refuses_17 : decode cL_refuses 17 = .ok (.iconst 2, 1) := by decide +kernel
theorem dL_refuses_18 : decode cL_refuses 18 = .ok (.irem, 1) := by decide +kernel
theorem dL_refuses_19 : decode cL_refuses 19 = .ok (.ifCond .ne 10, 3) := by decide +kernel
theorem dL_refuses_22 : decode cL_refuses 22 = .ok (.bipush 48, 2) := by decide +kernel
theorem dL_refuses_24 : decode cL_refuses 24 = .ok (.iload_n 1, 1) := by decide +kernel
theorem dL_refuses_25 : decode cL_refuses 25 = .ok (.iadd, 1) := by decide +kernel
theorem dL_refuses_26 : decode cL_refuses 26 = .ok (.goto 6, 3) := by decide +kernel
theorem dL_refuses_29 : decode cL_refuses 29 = .ok (.iconst (-1), 1) := by decide +kernel
theorem dL_refuses_30 : decode cL_refuses 30 = .ok (.iload_n 1, 1) := by decide +kernel
theorem dL_refuses_31 : decode cL_refuses 31 = .ok (.isub, 1) := by decide +kernel
theorem dL_refuses_32 : decode cL_refuses 32 = .ok (.istore_n 3, 1) := by decide +kernel
theorem dL_refuses_33 : decode cL_refuses 33 = .ok (.aload_n 0, 1) := by decide +kernel
theorem dL_refuses_34 : decode cL_refuses 34 = .ok (.iload_n 3, 1) := by decide +kernel
theorem dL_refuses_35 : decode cL_refuses 35 = .ok (.invokevirtual 65, 3) := by decide +kernel
theorem dL_refuses_38 : decode cL_refuses 38 = .ok (.ldc 98, 2) := by decide +kernel
theorem dL_refuses_40 : decode cL_refuses 40 = .ok (.if_icmp .ne 282, 3) := by decide +kernel
theorem dL_refuses_43 : decode cL_refuses 43 = .ok (.aload_n 0, 1) := by decide +kernel
theorem dL_refuses_44 : decode cL_refuses 44 = .ok (.iload_n 2, 1) := by decide +kernel
theorem dL_refuses_45 : decode cL_refuses 45 = .ok (.iconst 0, 1) := by decide +kernel
theorem dL_refuses_46 : decode cL_refuses 46 = .ok (.invokevirtual 28, 3) := by decide +kernel
theorem dL_refuses_49 : decode cL_refuses 49 = .ok (.ldc 98, 2) := by decide +kernel
theorem dL_refuses_51 : decode cL_refuses 51 = .ok (.if_icmp .ne 271, 3) := by decide +kernel
theorem dL_refuses_54 : decode cL_refuses 54 = .ok (.aload_n 0, 1) := by decide +kernel
theorem dL_refuses_55 : decode cL_refuses 55 = .ok (.iconst 0, 1) := by decide +kernel
theorem dL_refuses_56 : decode cL_refuses 56 = .ok (.iload_n 3, 1) := by decide +kernel
theorem dL_refuses_57 : decode cL_refuses 57 = .ok (.invokevirtual 28, 3) := by decide +kernel
theorem dL_refuses_60 : decode cL_refuses 60 = .ok (.ldc 98, 2) := by decide +kernel
theorem dL_refuses_62 : decode cL_refuses 62 = .ok (.if_icmp .ne 260, 3) := by decide +kernel
theorem dL_refuses_65 : decode cL_refuses 65 = .ok (.aload_n 0, 1) := by decide +kernel
theorem dL_refuses_66 : decode cL_refuses 66 = .ok (.iload_n 2, 1) := by decide +kernel
theorem dL_refuses_67 : decode cL_refuses 67 = .ok (.invokevirtual 32, 3) := by decide +kernel
theorem dL_refuses_70 : decode cL_refuses 70 = .ok (.ldc 98, 2) := by decide +kernel
theorem dL_refuses_72 : decode cL_refuses 72 = .ok (.if_icmp .ne 250, 3) := by decide +kernel
theorem dL_refuses_75 : decode cL_refuses 75 = .ok (.aload_n 0, 1) := by decide +kernel
theorem dL_refuses_76 : decode cL_refuses 76 = .ok (.iload_n 2, 1) := by decide +kernel
theorem dL_refuses_77 : decode cL_refuses 77 = .ok (.iconst 0, 1) := by decide +kernel
theorem dL_refuses_78 : decode cL_refuses 78 = .ok (.ldc 128, 2) := by decide +kernel
theorem dL_refuses_80 : decode cL_refuses 80 = .ok (.invokevirtual 37, 3) := by decide +kernel
theorem dL_refuses_83 : decode cL_refuses 83 = .ok (.ldc 98, 2) := by decide +kernel
theorem dL_refuses_85 : decode cL_refuses 85 = .ok (.if_icmp .ne 237, 3) := by decide +kernel
theorem dL_refuses_88 : decode cL_refuses 88 = .ok (.aload_n 0, 1) := by decide +kernel
theorem dL_refuses_89 : decode cL_refuses 89 = .ok (.iconst 0, 1) := by decide +kernel
theorem dL_refuses_90 : decode cL_refuses 90 = .ok (.iload_n 2, 1) := by decide +kernel
theorem dL_refuses_91 : decode cL_refuses 91 = .ok (.iconst 0, 1) := by decide +kernel
theorem dL_refuses_92 : decode cL_refuses 92 = .ok (.invokevirtual 37, 3) := by decide +kernel
theorem dL_refuses_95 : decode cL_refuses 95 = .ok (.ldc 98, 2) := by decide +kernel
theorem dL_refuses_97 : decode cL_refuses 97 = .ok (.if_icmp .ne 225, 3) := by decide +kernel
theorem dL_refuses_100 : decode cL_refuses 100 = .ok (.aload_n 0, 1) := by decide +kernel
theorem dL_refuses_101 : decode cL_refuses 101 = .ok (.iconst 0, 1) := by decide +kernel
theorem dL_refuses_102 : decode cL_refuses 102 = .ok (.iconst 0, 1) := by decide +kernel
theorem dL_refuses_103 : decode cL_refuses 103 = .ok (.ldc 36, 2) := by decide +kernel
theorem dL_refuses_105 : decode cL_refuses 105 = .ok (.iload_n 1, 1) := by decide +kernel
theorem dL_refuses_106 : decode cL_refuses 106 = .ok (.iadd, 1) := by decide +kernel
theorem dL_refuses_107 : decode cL_refuses 107 = .ok (.invokevirtual 37, 3) := by decide +kernel
theorem dL_refuses_110 : decode cL_refuses 110 = .ok (.ldc 129, 2) := by decide +kernel
theorem dL_refuses_112 : decode cL_refuses 112 = .ok (.if_icmp .ne 210, 3) := by decide +kernel
theorem dL_refuses_115 : decode cL_refuses 115 = .ok (.aload_n 0, 1) := by decide +kernel
