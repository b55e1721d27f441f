set_option maxRecDepth 20000 in
theorem ggL_types_L_number : GoodIn wsL_types wsL_number := goodIn_r _ [27, 7, 8, 9, 10, 11, 12, 13, 14, 15, 16, 17, 18, 19, 20, 21, 22, 23, 24, 28, 29, 30, 31, 32, 33, 34, 35, 36, 37] (by decide +kernel) (by decide +kernel)
set_option maxRecDepth 20000 in
theorem gL_types_L_number : GoodIn wsL_types (va_wsS RL 24 yL_number wsL_number) := goodIn_app (goodIn_of _ (by decide +kernel)) ggL_types_L_number
theorem dL_types_0 : decode cL_types 0 = .ok (.aload_n 0, 1) := by decide +kernel
theorem dL_types_1 : decode cL_types 1 = .ok (.iload_n 1, 1) := by decide +kernel
theorem dL_types_2 : decode cL_types 2 = .ok (.invokestatic 19, 3) := by decide +kernel
theorem dL_types_5 : decode cL_types 5 = .ok (.invokevirtual 13, 3) := by decide +kernel
theorem dL_types_8 : decode cL_types 8 = .ok (.istore 4, 2) := by decide +kernel
theorem dL_types_10 : decode cL_types 10 = .ok (.iload_n 1, 1) := by decide +kernel
theorem dL_types_11 : decode cL_types 11 = .ok (.bipush 7, 2) := by decide +kernel
theorem dL_types_13 : decode cL_types 13 = .ok (.if_icmp .ne 9, 3) := by decide +kernel
theorem dL_types_16 : decode cL_types 16 = .ok (.aload_n 0, 1) := by decide +kernel
theorem dL_types_17 : decode cL_types 17 = .ok (.iload_n 2, 1) := by decide +kernel
theorem dL_types_18 : decode cL_types 18 = .ok (.invokestatic 24, 3) := by decide +kernel
theorem dL_types_21 : decode cL_types 21 = .ok (.ireturn, 1) := by decide +kernel
theorem dL_types_22 : decode cL_types 22 = .ok (.iload_n 1, 1) := by decide +kernel
theorem dL_types_23 : decode cL_types 23 = .ok (.bipush 9, 2) := by decide +kernel
theorem dL_types_25 : decode cL_types 25 = .ok (.if_icmp .le 6, 3) := by decide +kernel
theorem dL_types_28 : decode cL_types 28 = .ok (.iload 4, 2) := by decide +kernel
theorem dL_types_30 : decode cL_types 30 = .ok (.ireturn, 1) := by decide +kernel
theorem dL_types_31 : decode cL_types 31 = .ok (.aload_n 0, 1) := by decide +kernel
theorem dL_types_32 : decode cL_types 32 = .ok (.bipush 48, 2) := by decide +kernel
theorem dL_types_34 : decode cL_types 34 = .ok (.iload_n 2, 1) := by decide +kernel
theorem dL_types_35 : decode cL_types 35 = .ok (.iadd, 1) := by decide +kernel
theorem dL_types_36 : decode cL_types 36 = .ok (.invokevirtual 13, 3) := by decide +kernel
theorem dL_types_39 : decode cL_types 39 = .ok (.istore 4, 2) := by decide +kernel
theorem dL_types_41 : decode cL_types 41 = .ok (.iload_n 1, 1) := by decide +kernel
theorem dL_types_42 : decode cL_types 42 = .ok (.ifCond .eq 9, 3) := by decide +kernel
theorem dL_types_45 : decode cL_types 45 = .ok (.iload_n 1, 1) := by decide +kernel
theorem dL_types_46 : decode cL_types 46 = .ok (.bipush 7, 2) := by decide +kernel
theorem dL_types_48 : decode cL_types 48 = .ok (.if_icmp .le 26, 3) := by decide +kernel
theorem dL_types_51 : decode cL_types 51 = .ok (.aload_n 0, 1) := by decide +kernel
theorem dL_types_52 : decode cL_types 52 = .ok (.iload_n 1, 1) := by decide +kernel
theorem dL_types_53 : decode cL_types 53 = .ok (.ifCond .ne 8, 3) := by decide +kernel
theorem dL_types_56 : decode cL_types 56 = .ok (.bipush 61, 2) := by decide +kernel
theorem dL_types_58 : decode cL_types 58 = .ok (.goto 5, 3) := by decide +kernel
theorem dL_types_61 : decode cL_types 61 = .ok (.bipush 62, 2) := by decide +kernel
theorem dL_types_63 : decode cL_types 63 = .ok (.invokevirtual 13, 3) := by decide +kernel
theorem dL_types_66 : decode cL_types 66 = .ok (.istore 4, 2) := by decide +kernel
theorem dL_types_68 : decode cL_types 68 = .ok (.aload_n 0, 1) := by decide +kernel
theorem dL_types_69 : decode cL_types 69 = .ok (.iload_n 3, 1) := by decide +kernel
theorem dL_types_70 : decode cL_types 70 = .ok (.invokestatic 24, 3) := by decide +kernel
theorem dL_types_73 : decode cL_types 73 = .ok (.ireturn, 1) := by decide +kernel
theorem dL_types_74 : decode cL_types 74 = .ok (.aload_n 0, 1) := by decide +kernel
theorem dL_types_75 : decode cL_types 75 = .ok (.bipush 48, 2) := by decide +kernel
theorem dL_types_77 : decode cL_types 77 = .ok (.iload_n 3, 1) := by decide +kernel
theorem dL_types_78 : decode cL_types 78 = .ok (.iadd, 1) := by decide +kernel
theorem dL_types_79 : decode cL_types 79 = .ok (.invokevirtual 13, 3) := by decide +kernel
theorem dL_types_82 : decode cL_types 82 = .ok (.ireturn, 1) := by decide +kernel
set_option maxRecDepth 20000 in
theorem ggL_acts_X6_start : GoodIn wsL_acts wsX6_start := goodIn_r _ [7, 8, 9, 10, 11, 12, 6, 13, 14, 15, 16, 17, 18, 19, 20, 21, 22, 23, 24, 25, 26, 27, 28, 29, 30, 31, 32, 33, 34, 35, 36, 37, 38, 39, 40, 41, 42, 43, 44, 45, 46, 47, 48, 49, 50, 51, 52, 53, 54, 55, 56, 57, 58, 59, 60, 61, 62, 63, 64, 65, 66, 67, 68, 69, 70, 71, 72, 73, 74, 75, 76, 77, 78, 79, 80, 81, 82, 83, 84, 85, 86, 87, 88, 89, 90, 91, 419, 420, 421, 422, 423, 424, 425, 426, 427, 428, 429, 430, 431, 432, 433, 434, 435, 436, 437, 438, 439, 440, 441, 442, 443, 444, 445, 446, 447, 448, 449, 450] (by decide +kernel) (by decide +kernel)
set_option maxRecDepth 20000 in
theorem gL_acts_X6_start : GoodIn wsL_acts (wsV RL 28 RX6 yX6_start wsX6_start) := goodIn_app (goodIn_of _ (by decide +kernel)) ggL_acts_X6_start
set_option maxRecDepth 20000 in
theorem ggL_acts_X6_halt : GoodIn wsL_acts wsX6_halt := goodIn_r _ [95, 8, 9, 10, 11, 12, 6, 13, 14, 15, 16, 20, 21, 22, 23, 24, 25, 26, 27, 28, 29, 30, 31, 32, 33, 34, 35, 36, 37, 38, 39, 40, 41, 42, 43, 44, 45, 46, 47, 48, 49, 50, 51, 52, 53, 54, 55, 56, 57, 58, 59, 60, 61, 62, 63, 64, 65, 66, 67, 68, 69, 70, 71, 72, 73, 74, 75, 76, 77, 78, 79, 80, 81, 82, 83, 96, 97, 98, 99, 419, 420, 421, 422, 423, 424, 425, 426, 427, 428, 429, 430, 431, 432, 433, 434, 435, 436, 437, 438, 439, 440, 441, 442, 443, 444, 445, 446, 447, 448, 449, 450] (by decide +kernel) (by decide +kernel)
set_option maxRecDepth 20000 in
theorem gL_acts_X6_halt : GoodIn wsL_acts (wsV RL 32 RX6 yX6_halt wsX6_halt) := goodIn_app (goodIn_of _ (by decide +kernel)) ggL_acts_X6_halt
set_option maxRecDepth 20000 in
theorem ggL_acts_X6_setRegister : GoodIn wsL_acts wsX6_setRegister := goodIn_r _ [103, 8, 104, 9, 10, 11, 12, 6, 13, 14, 15, 16, 105, 106, 107, 108, 109, 110, 20, 21, 22, 23, 24, 25, 26, 27, 28, 29, 30, 31, 32, 33, 34, 35, 36, 37, 38, 39, 40, 41, 42, 43, 44, 45, 46, 47, 48, 49, 50, 51, 52, 53, 54, 55, 56, 57, 58, 59, 60, 61, 62, 63, 64, 65, 66, 67, 68, 69, 70, 71, 72, 73, 74, 75, 76, 77, 78, 79, 80, 81, 82, 83, 111, 112, 113, 419, 420, 421, 422, 423, 424, 425, 426, 427, 428, 429, 430, 431, 432, 433, 434, 435, 436, 437, 438, 439, 440, 441, 442, 443, 444, 445, 446, 447, 448, 449, 450] (by decide +kernel) (by decide +kernel)
set_option maxRecDepth 20000 in
theorem gL_acts_X6_setRegister : GoodIn wsL_acts (wsV RL 37 RX6 yX6_setRegister wsX6_setRegister) := goodIn_app (goodIn_of _ (by decide +kernel)) ggL_acts_X6_setRegister
set_option maxRecDepth 20000 in
theorem ggL_acts_X6_setWord : GoodIn wsL_acts wsX6_setWord := goodIn_r _ [117, 8, 104, 9, 10, 118, 119, 6, 120, 14, 15, 16, 108, 109, 110, 20, 21, 22, 23, 24, 25, 26, 27, 28, 29, 30, 31, 32, 33, 34, 35, 36, 37, 38, 39, 40, 41, 42, 43, 44, 45, 46, 47, 48, 49, 50, 51, 52, 53, 54, 55, 56, 57, 58, 59, 60, 61, 62, 63, 64, 65, 66, 67, 68, 69, 70, 71, 72, 73, 74, 75, 76, 77, 78, 79, 80, 81, 82, 83, 111, 112, 113, 419, 420, 421, 422, 423, 424, 425, 426, 427, 428, 429, 430, 431, 443, 444, 445, 432, 433, 434, 435, 436, 437, 438, 439, 440, 441, 442, 446, 447, 448, 449, 450] (by decide +kernel) (by decide +kernel)
set_option maxRecDepth 20000 in
theorem gL_acts_X6_setWord : GoodIn wsL_acts (wsV RL 41 RX6 yX6_setWord wsX6_setWord) := goodIn_app (goodIn_of _ (by decide +kernel)) ggL_acts_X6_setWord
set_option maxRecDepth 20000 in
theorem ggL_acts_X6_setSlot : GoodIn wsL_acts wsX6_setSlot := goodIn_r _ [124, 8, 9, 10, 125, 126, 6, 127, 14, 15, 16, 11, 12, 13, 20, 21, 22, 23, 24, 25, 26, 27, 28, 29, 30, 31, 32, 33, 34, 35, 36, 37, 38, 39, 40, 41, 42, 43, 44, 45, 46, 47, 48, 49, 50, 51, 52, 53, 54, 55, 56, 57, 58, 59, 60, 61, 62, 63, 64, 65, 66, 67, 68, 69, 70, 71, 72, 73, 74, 75, 76, 77, 78, 79, 80, 81, 82, 83, 111, 112, 113, 419, 420, 421, 422, 423, 424, 425, 426, 427, 428, 429, 430, 431, 443, 444, 445, 432, 433, 434, 435, 436, 437, 438, 439, 440, 441, 442, 446, 447, 448, 449, 450] (by decide +kernel) (by decide +kernel)
set_option maxRecDepth 20000 in
theorem gL_acts_X6_setSlot : GoodIn wsL_acts (wsV RL 44 RX6 yX6_setSlot wsX6_setSlot) := goodIn_app (goodIn_of _ (by decide +kernel)) ggL_acts_X6_setSlot
