set_option maxRecDepth 20000 in
theorem gL_law_L_refuses : GoodIn wsL_law (va_wsS RL 153 yL_refuses wsL_refuses) := goodIn_app (goodIn_of _ (by decide +kernel)) ggL_law_L_refuses
set_option maxRecDepth 20000 in
theorem gcL_law_L_same : Cond.code yL_same cL_same 5 (some .boolean) ∈ wsL_law := List.mem_append_left _ (List.mem_append_left _ (List.mem_append_left _ (List.mem_append_left _ (List.mem_append_left _ (List.mem_append_left _ (List.mem_append_left _ (List.mem_append_left _ (List.mem_append_right _ (List.mem_append_right _ (List.mem_append_right _ (List.mem_append_right _ (List.mem_append_right _ (List.mem_append_right _ (List.mem_append_right _ (List.mem_append_right _ (List.mem_append_right _ (List.mem_append_right _ (List.mem_append_right _ (List.mem_append_right _ (List.mem_append_right _ (List.mem_append_right _ (List.mem_append_right _ (List.mem_append_right _ (List.mem_append_right _ (List.mem_append_right _ (List.mem_append_right _ (List.mem_append_right _ (List.mem_append_right _ (List.mem_append_right _ (List.mem_append_right _ (List.mem_append_right _ (List.mem_of_getElem? (i := 13) rfl))))))))))))))))))))))))))))))))
theorem gr_wsL_same_r1 : GoodIn wsL_law wsL_same_r1 := goodIn_r _ [396, 397, 398, 2, 399, 14, 400, 401, 402, 403, 272, 273, 274, 275, 276, 277, 278, 279, 280, 249, 250, 441, 442, 443] (by decide +kernel) (by decide +kernel)
theorem gr_wsL_same_r2 : GoodIn wsL_law wsL_same_r2 := goodIn_r _ [444, 445, 304, 305, 13, 306, 38, 307, 308, 309, 310, 311, 29, 100, 312, 313, 314, 315, 316, 317, 318, 44, 319, 64] (by decide +kernel) (by decide +kernel)
theorem gr_wsL_same_r3 : GoodIn wsL_law wsL_same_r3 := goodIn_r _ [110, 320, 321, 322, 323, 37, 324, 325, 326, 327, 328, 329, 330, 331, 332, 333, 446, 447, 448, 449, 450, 451, 452, 453] (by decide +kernel) (by decide +kernel)
theorem gr_wsL_same_r4 : GoodIn wsL_law wsL_same_r4 := goodIn_r _ [15, 454, 93, 94, 95, 33, 35, 96, 97, 98, 99, 36, 42, 101, 102, 103, 104, 105, 63, 106, 107, 108, 109, 65] (by decide +kernel) (by decide +kernel)
theorem gr_wsL_same_r5 : GoodIn wsL_law wsL_same_r5 := goodIn_r _ [111, 112, 113, 114, 115, 116, 117, 32, 118, 49, 119, 50, 120, 121, 122, 41, 123, 59, 124, 125, 126, 455, 456, 457] (by decide +kernel) (by decide +kernel)
theorem gr_wsL_same_r6 : GoodIn wsL_law wsL_same_r6 := goodIn_r _ [458, 295, 296, 297, 298, 338, 339, 340, 341, 342, 343, 344, 345, 346, 347, 348, 349, 303, 350, 351, 352, 353, 354, 355] (by decide +kernel) (by decide +kernel)
theorem gr_wsL_same_r7 : GoodIn wsL_law wsL_same_r7 := goodIn_r _ [356, 357, 358, 172, 173, 174, 334, 335, 359, 360, 361, 362, 363, 364, 365, 366, 367, 176, 177, 368, 369, 370, 371, 336] (by decide +kernel) (by decide +kernel)
theorem gr_wsL_same_r8 : GoodIn wsL_law wsL_same_r8 := goodIn_r _ [337, 372, 373, 374, 375, 376, 377, 378, 379, 380, 381, 382, 383, 384, 385, 386, 387, 388, 389, 390, 470, 471, 472, 473] (by decide +kernel) (by decide +kernel)
theorem gr_wsL_same_r9 : GoodIn wsL_law wsL_same_r9 := goodIn_r _ [285, 474, 475, 476, 477, 575, 576, 577, 578, 519, 520, 521, 425, 426, 427, 428, 408, 429, 430, 431, 404, 405, 406, 407] (by decide +kernel) (by decide +kernel)
theorem gr_wsL_same_r10 : GoodIn wsL_law wsL_same_r10 := goodIn_r _ [413, 414, 415, 416, 409, 410, 411, 412, 417, 418, 419, 420, 421, 422, 423, 424, 463, 464, 465, 466, 467, 468, 469, 432] (by decide +kernel) (by decide +kernel)
theorem gr_wsL_same_r11 : GoodIn wsL_law wsL_same_r11 := goodIn_r _ [433, 434, 435, 436, 437, 438, 439, 440] (by decide +kernel) (by decide +kernel)
theorem ggL_law_L_same : GoodIn wsL_law wsL_same := goodIn_cw gcL_law_L_same (goodIn_app (goodIn_app (goodIn_app (goodIn_app (goodIn_app (goodIn_app gr_wsL_same_r1 (goodIn_app gr_wsL_same_r2 (goodIn_app gr_wsL_same_r3 (goodIn_app gr_wsL_same_r4 (goodIn_app gr_wsL_same_r5 (goodIn_app gr_wsL_same_r6 (goodIn_app gr_wsL_same_r7 (goodIn_app gr_wsL_same_r8 (goodIn_app gr_wsL_same_r9 (goodIn_app gr_wsL_same_r10 gr_wsL_same_r11)))))))))) (goodIn_sub inlX6 (by decide +kernel))) (goodIn_sub inlX3 (by decide +kernel))) (goodIn_sub inlX0 (by decide +kernel))) (goodIn_sub inlX2 (by decide +kernel))) (goodIn_sub inlX5 (by decide +kernel)))
set_option maxRecDepth 20000 in
theorem gL_law_L_same : GoodIn wsL_law (va_wsS RL 157 yL_same wsL_same) := goodIn_app (goodIn_of _ (by decide +kernel)) ggL_law_L_same
set_option maxRecDepth 20000 in
theorem ggL_law_X6_setBreakpoint : GoodIn wsL_law wsX6_setBreakpoint := goodIn_r _ [533, 276, 19, 14, 390, 336, 2, 337, 280, 249, 250, 286, 287, 288, 18, 289, 71, 91, 89, 290, 176, 173, 177, 92, 93, 94, 13, 95, 29, 33, 35, 96, 97, 98, 99, 36, 37, 38, 42, 100, 101, 102, 103, 104, 44, 105, 63, 106, 64, 107, 108, 109, 110, 65, 111, 112, 113, 114, 115, 116, 117, 32, 118, 49, 119, 50, 120, 121, 122, 41, 123, 59, 124, 125, 126, 534, 535, 536, 537, 590, 591, 592, 593, 594, 595, 596, 597, 598, 599, 600, 601, 602, 603, 604, 605, 617, 618, 619, 620, 621, 622, 623, 624, 625, 626, 627, 612, 613, 614, 615, 616] (by decide +kernel) (by decide +kernel)
set_option maxRecDepth 20000 in
theorem gL_law_X6_setBreakpoint : GoodIn wsL_law (wsV RL 50 RX6 yX6_setBreakpoint wsX6_setBreakpoint) := goodIn_app (goodIn_of _ (by decide +kernel)) ggL_law_X6_setBreakpoint
theorem dL_law_0 : decode cL_law 0 = .ok (.new 14, 3) := by decide +kernel
theorem dL_law_3 : decode cL_law 3 = .ok (.dup, 1) := by decide +kernel
theorem dL_law_4 : decode cL_law 4 = .ok (.invokespecial 137, 3) := by decide +kernel
theorem dL_law_7 : decode cL_law 7 = .ok (.astore_n 1, 1) := by decide +kernel
theorem dL_law_8 : decode cL_law 8 = .ok (.new 14, 3) := by decide +kernel
theorem dL_law_11 : decode cL_law 11 = .ok (.dup, 1) := by decide +kernel
theorem dL_law_12 : decode cL_law 12 = .ok (.invokespecial 137, 3) := by decide +kernel
theorem dL_law_15 : decode cL_law 15 = .ok (.astore_n 2, 1) := by decide +kernel
theorem dL_law_16 : decode cL_law 16 = .ok (.aload_n 1, 1) := by decide +kernel
theorem dL_law_17 : decode cL_law 17 = .ok (.invokevirtual 54, 3) := by decide +kernel
theorem dL_law_20 : decode cL_law 20 = .ok (.ldc 102, 2) := by decide +kernel
theorem dL_law_22 : decode cL_law 22 = .ok (.if_icmp .ne 64, 3) := by decide +kernel
theorem dL_law_25 : decode cL_law 25 = .ok (.aload_n 1, 1) := by decide +kernel
theorem dL_law_26 : decode cL_law 26 = .ok (.invokevirtual 138, 3) := by decide +kernel
theorem dL_law_29 : decode cL_law 29 = .ok (.ifCond .ne 57, 3) := by decide +kernel
theorem dL_law_32 : decode cL_law 32 = .ok (.aload_n 1, 1) := by decide +kernel
theorem dL_law_33 : decode cL_law 33 = .ok (.iconst 0, 1) := by decide +kernel
theorem dL_law_34 : decode cL_law 34 = .ok (.invokevirtual 77, 3) := by decide +kernel
theorem dL_law_37 : decode cL_law 37 = .ok (.iconst 3, 1) := by decide +kernel
theorem dL_law_38 : decode cL_law 38 = .ok (.if_icmp .ne 48, 3) := by decide +kernel
theorem dL_law_41 : decode cL_law 41 = .ok (.aload_n 1, 1) := by decide +kernel
theorem dL_law_42 : decode cL_law 42 = .ok (.iconst 1, 1) := by decide +kernel
theorem dL_law_43 : decode cL_law 43 = .ok (.invokevirtual 77, 3) := by decide +kernel
theorem dL_law_46 : decode cL_law 46 = .ok (.ifCond .ne 40, 3) := by decide +kernel
theorem dL_law_49 : decode cL_law 49 = .ok (.aload_n 1, 1) := by decide +kernel
theorem dL_law_50 : decode cL_law 50 = .ok (.iconst 5, 1) := by decide +kernel
theorem dL_law_51 : decode cL_law 51 = .ok (.invokevirtual 68, 3) := by decide +kernel
theorem dL_law_54 : decode cL_law 54 = .ok (.ifCond .ne 32, 3) := by decide +kernel
theorem dL_law_57 : decode cL_law 57 = .ok (.aload_n 1, 1) := by decide +kernel
theorem dL_law_58 : decode cL_law 58 = .ok (.invokevirtual 54, 3) := by decide +kernel
theorem dL_law_61 : decode cL_law 61 = .ok (.ifCond .ne 25, 3) := by decide +kernel
theorem dL_law_64 : decode cL_law 64 = .ok (.aload_n 1, 1) := by decide +kernel
theorem dL_law_65 : decode cL_law 65 = .ok (.bipush 47, 2) := by decide +kernel
theorem dL_law_67 : decode cL_law 67 = .ok (.invokevirtual 116, 3) := by decide +kernel
theorem dL_law_70 : decode cL_law 70 = .ok (.bipush 11, 2) := by decide +kernel
theorem dL_law_72 : decode cL_law 72 = .ok (.if_icmp .ne 14, 3) := by decide +kernel
theorem dL_law_75 : decode cL_law 75 = .ok (.aload_n 1, 1) := by decide +kernel
theorem dL_law_76 : decode cL_law 76 = .ok (.invokestatic 141, 3) := by decide +kernel
theorem dL_law_79 : decode cL_law 79 = .ok (.ifCond .eq 7, 3) := by decide +kernel
theorem dL_law_82 : decode cL_law 82 = .ok (.iconst 1, 1) := by decide +kernel
theorem dL_law_83 : decode cL_law 83 = .ok (.goto 4, 3) := by decide +kernel
theorem dL_law_86 : decode cL_law 86 = .ok (.iconst 0, 1) := by decide +kernel
theorem dL_law_87 : decode cL_law 87 = .ok (.istore_n 3, 1) := by decide +kernel
theorem dL_law_88 : decode cL_law 88 = .ok (.iconst 0, 1) := by decide +kernel
theorem dL_law_89 : decode cL_law 89 = .ok (.istore 4, 2) := by decide +kernel
theorem dL_law_91 : decode cL_law 91 = .ok (.iload 4, 2) := by decide +kernel
theorem dL_law_93 : decode cL_law 93 = .ok (.bipush 36, 2) := by decide +kernel
theorem dL_law_95 : decode cL_law 95 = .ok (.if_icmp .ge 98, 3) := by decide +kernel
theorem dL_law_98 : decode cL_law 98 = .ok (.iload_n 3, 1) := by decide +kernel
theorem dL_law_99 : decode cL_law 99 = .ok (.ifCond .eq 94, 3) := by decide +kernel
theorem dL_law_102 : decode cL_law 102 = .ok (.aload_n 0, 1) := by decide +kernel
theorem dL_law_103 : decode cL_law 103 = .ok (.iload 4, 2) := by decide +kernel
theorem dL_law_105 : decode cL_law 105 = .ok (.invokestatic 145, 3) := by decide +kernel
theorem dL_law_108 : decode cL_law 108 = .ok (.istore 5, 2) := by decide +kernel
theorem dL_law_110 : decode cL_law 110 = .ok (.aload_n 1, 1) := by decide +kernel
theorem dL_law_111 : decode cL_law 111 = .ok (.iload 5, 2) := by decide +kernel
theorem dL_law_113 : decode cL_law 113 = .ok (.invokestatic 149, 3) := by decide +kernel
theorem dL_law_116 : decode cL_law 116 = .ok (.istore 6, 2) := by decide +kernel
theorem dL_law_118 : decode cL_law 118 = .ok (.iload 4, 2) := by decide +kernel
theorem dL_law_120 : decode cL_law 120 = .ok (.iconst 3, 1) := by decide +kernel
theorem dL_law_121 : decode cL_law 121 = .ok (.irem, 1) := by decide +kernel
theorem dL_law_122 : decode cL_law 122 = .ok (.ifCond .gt 15, 3) := by decide +kernel
theorem dL_law_125 : decode cL_law 125 = .ok (.aload_n 2, 1) := by decide +kernel
theorem dL_law_126 : decode cL_law 126 = .ok (.iload 5, 2) := by decide +kernel
theorem dL_law_128 : decode cL_law 128 = .ok (.ldc 152, 2) := by decide +kernel
theorem dL_law_130 : decode cL_law 130 = .ok (.irem, 1) := by decide +kernel
theorem dL_law_131 : decode cL_law 131 = .ok (.invokestatic 153, 3) := by decide +kernel
theorem dL_law_134 : decode cL_law 134 = .ok (.ifCond .eq 51, 3) := by decide +kernel
theorem dL_law_137 : decode cL_law 137 = .ok (.aload_n 2, 1) := by decide +kernel
theorem dL_law_138 : decode cL_law 138 = .ok (.iload 5, 2) := by decide +kernel
theorem dL_law_140 : decode cL_law 140 = .ok (.invokestatic 149, 3) := by decide +kernel
theorem dL_law_143 : decode cL_law 143 = .ok (.iload 6, 2) := by decide +kernel
theorem dL_law_145 : decode cL_law 145 = .ok (.if_icmp .ne 40, 3) := by decide +kernel
theorem dL_law_148 : decode cL_law 148 = .ok (.iload 4, 2) := by decide +kernel
theorem dL_law_150 : decode cL_law 150 = .ok (.iconst 2, 1) := by decide +kernel
theorem dL_law_151 : decode cL_law 151 = .ok (.irem, 1) := by decide +kernel
theorem dL_law_152 : decode cL_law 152 = .ok (.ifCond .ne 7, 3) := by decide +kernel
theorem dL_law_155 : decode cL_law 155 = .ok (.aload_n 1, 1) := by decide +kernel
theorem dL_law_156 : decode cL_law 156 = .ok (.goto 4, 3) := by decide +kernel
theorem dL_law_159 : decode cL_law 159 = .ok (.aload_n 2, 1) := by decide +kernel
theorem dL_law_160 : decode cL_law 160 = .ok (.invokestatic 141, 3) := by decide +kernel
theorem dL_law_163 : decode cL_law 163 = .ok (.ifCond .eq 22, 3) := by decide +kernel
theorem dL_law_166 : decode cL_law 166 = .ok (.iload 4, 2) := by decide +kernel
theorem dL_law_168 : decode cL_law 168 = .ok (.iconst 4, 1) := by decide +kernel
theorem dL_law_169 : decode cL_law 169 = .ok (.irem, 1) := by decide +kernel
theorem dL_law_170 : decode cL_law 170 = .ok (.ifCond .gt 11, 3) := by decide +kernel
