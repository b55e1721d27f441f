set_option maxRecDepth 20000 in
theorem gL_same_X6_programCounter : GoodIn wsL_same (wsV RL 86 RX6 yX6_programCounter wsX6_programCounter) := goodIn_app (goodIn_of _ (by decide +kernel)) ggL_same_X6_programCounter
set_option maxRecDepth 20000 in
theorem ggL_same_X6_executed : GoodIn wsL_same wsX6_executed := goodIn_r _ [224, 6, 15, 209, 151, 4, 152, 19, 20, 21, 249, 250, 251, 252, 253, 254, 255, 256, 257, 258, 259, 260, 261, 262, 263, 264, 265, 266, 267, 268, 269, 270, 271, 272] (by decide +kernel) (by decide +kernel)
set_option maxRecDepth 20000 in
theorem gL_same_X6_executed : GoodIn wsL_same (wsV RL 83 RX6 yX6_executed wsX6_executed) := goodIn_app (goodIn_of _ (by decide +kernel)) ggL_same_X6_executed
set_option maxRecDepth 20000 in
theorem ggL_same_X6_lent : GoodIn wsL_same wsX6_lent := goodIn_r _ [228, 6, 15, 209, 151, 4, 152, 19, 20, 21, 249, 250, 251, 252, 253, 254, 255, 256, 257, 258, 259, 260, 261, 262, 263, 264, 265, 266, 267, 268, 269, 270, 271, 272] (by decide +kernel) (by decide +kernel)
set_option maxRecDepth 20000 in
theorem gL_same_X6_lent : GoodIn wsL_same (wsV RL 89 RX6 yX6_lent wsX6_lent) := goodIn_app (goodIn_of _ (by decide +kernel)) ggL_same_X6_lent
set_option maxRecDepth 20000 in
theorem ggL_same_X6_starved : GoodIn wsL_same wsX6_starved := goodIn_r _ [232, 6, 15, 209, 151, 4, 152, 19, 20, 21, 249, 250, 251, 252, 253, 254, 255, 256, 257, 258, 259, 260, 261, 262, 263, 264, 265, 266, 267, 268, 269, 270, 271, 272] (by decide +kernel) (by decide +kernel)
set_option maxRecDepth 20000 in
theorem gL_same_X6_starved : GoodIn wsL_same (wsV RL 92 RX6 yX6_starved wsX6_starved) := goodIn_app (goodIn_of _ (by decide +kernel)) ggL_same_X6_starved
set_option maxRecDepth 20000 in
theorem ggL_same_X6_slot : GoodIn wsL_same wsX6_slot := goodIn_r _ [236, 6, 15, 237, 238, 4, 239, 19, 20, 21, 249, 250, 251, 252, 253, 254, 255, 256, 257, 258, 259, 260, 261] (by decide +kernel) (by decide +kernel)
set_option maxRecDepth 20000 in
theorem gL_same_X6_slot : GoodIn wsL_same (wsV RL 113 RX6 yX6_slot wsX6_slot) := goodIn_app (goodIn_of _ (by decide +kernel)) ggL_same_X6_slot
set_option maxRecDepth 20000 in
theorem ggL_same_X6_trace : GoodIn wsL_same wsX6_trace := goodIn_r _ [243, 193, 6, 19, 20, 4, 21, 244, 245, 246, 112, 247, 117, 248, 116, 114, 249, 250, 251, 252, 253, 254, 255, 256, 257, 258, 259, 260, 261, 275, 276, 277] (by decide +kernel) (by decide +kernel)
set_option maxRecDepth 20000 in
theorem gL_same_X6_trace : GoodIn wsL_same (wsV RL 99 RX6 yX6_trace wsX6_trace) := goodIn_app (goodIn_of _ (by decide +kernel)) ggL_same_X6_trace
theorem dL_same_0 : decode cL_same 0 = .ok (.aload_n 0, 1) := by decide +kernel
theorem dL_same_1 : decode cL_same 1 = .ok (.invokevirtual 71, 3) := by decide +kernel
theorem dL_same_4 : decode cL_same 4 = .ok (.aload_n 1, 1) := by decide +kernel
theorem dL_same_5 : decode cL_same 5 = .ok (.invokevirtual 71, 3) := by decide +kernel
theorem dL_same_8 : decode cL_same 8 = .ok (.if_icmp .ne 66, 3) := by decide +kernel
theorem dL_same_11 : decode cL_same 11 = .ok (.aload_n 0, 1) := by decide +kernel
theorem dL_same_12 : decode cL_same 12 = .ok (.invokevirtual 74, 3) := by decide +kernel
theorem dL_same_15 : decode cL_same 15 = .ok (.aload_n 1, 1) := by decide +kernel
theorem dL_same_16 : decode cL_same 16 = .ok (.invokevirtual 74, 3) := by decide +kernel
theorem dL_same_19 : decode cL_same 19 = .ok (.if_icmp .ne 55, 3) := by decide +kernel
theorem dL_same_22 : decode cL_same 22 = .ok (.aload_n 0, 1) := by decide +kernel
theorem dL_same_23 : decode cL_same 23 = .ok (.iconst 0, 1) := by decide +kernel
theorem dL_same_24 : decode cL_same 24 = .ok (.invokevirtual 77, 3) := by decide +kernel
theorem dL_same_27 : decode cL_same 27 = .ok (.aload_n 1, 1) := by decide +kernel
theorem dL_same_28 : decode cL_same 28 = .ok (.iconst 0, 1) := by decide +kernel
theorem dL_same_29 : decode cL_same 29 = .ok (.invokevirtual 77, 3) := by decide +kernel
theorem dL_same_32 : decode cL_same 32 = .ok (.if_icmp .ne 42, 3) := by decide +kernel
theorem dL_same_35 : decode cL_same 35 = .ok (.aload_n 0, 1) := by decide +kernel
theorem dL_same_36 : decode cL_same 36 = .ok (.iconst 1, 1) := by decide +kernel
theorem dL_same_37 : decode cL_same 37 = .ok (.invokevirtual 77, 3) := by decide +kernel
theorem dL_same_40 : decode cL_same 40 = .ok (.aload_n 1, 1) := by decide +kernel
theorem dL_same_41 : decode cL_same 41 = .ok (.iconst 1, 1) := by decide +kernel
theorem dL_same_42 : decode cL_same 42 = .ok (.invokevirtual 77, 3) := by decide +kernel
theorem dL_same_45 : decode cL_same 45 = .ok (.if_icmp .ne 29, 3) := by decide +kernel
theorem dL_same_48 : decode cL_same 48 = .ok (.aload_n 0, 1) := by decide +kernel
theorem dL_same_49 : decode cL_same 49 = .ok (.invokevirtual 103, 3) := by decide +kernel
theorem dL_same_52 : decode cL_same 52 = .ok (.aload_n 1, 1) := by decide +kernel
theorem dL_same_53 : decode cL_same 53 = .ok (.invokevirtual 103, 3) := by decide +kernel
theorem dL_same_56 : decode cL_same 56 = .ok (.if_icmp .ne 18, 3) := by decide +kernel
theorem dL_same_59 : decode cL_same 59 = .ok (.aload_n 0, 1) := by decide +kernel
theorem dL_same_60 : decode cL_same 60 = .ok (.invokevirtual 106, 3) := by decide +kernel
theorem dL_same_63 : decode cL_same 63 = .ok (.aload_n 1, 1) := by decide +kernel
theorem dL_same_64 : decode cL_same 64 = .ok (.invokevirtual 106, 3) := by decide +kernel
theorem dL_same_67 : decode cL_same 67 = .ok (.if_icmp .ne 7, 3) := by decide +kernel
theorem dL_same_70 : decode cL_same 70 = .ok (.iconst 1, 1) := by decide +kernel
theorem dL_same_71 : decode cL_same 71 = .ok (.goto 4, 3) := by decide +kernel
theorem dL_same_74 : decode cL_same 74 = .ok (.iconst 0, 1) := by decide +kernel
theorem dL_same_75 : decode cL_same 75 = .ok (.istore_n 2, 1) := by decide +kernel
theorem dL_same_76 : decode cL_same 76 = .ok (.iconst 0, 1) := by decide +kernel
theorem dL_same_77 : decode cL_same 77 = .ok (.istore_n 3, 1) := by decide +kernel
theorem dL_same_78 : decode cL_same 78 = .ok (.iload_n 3, 1) := by decide +kernel
theorem dL_same_79 : decode cL_same 79 = .ok (.bipush 48, 2) := by decide +kernel
theorem dL_same_81 : decode cL_same 81 = .ok (.if_icmp .ge 238, 3) := by decide +kernel
theorem dL_same_84 : decode cL_same 84 = .ok (.iload_n 2, 1) := by decide +kernel
theorem dL_same_85 : decode cL_same 85 = .ok (.ifCond .eq 234, 3) := by decide +kernel
theorem dL_same_88 : decode cL_same 88 = .ok (.iload_n 3, 1) := by decide +kernel
theorem dL_same_89 : decode cL_same 89 = .ok (.bipush 12, 2) := by decide +kernel
theorem dL_same_91 : decode cL_same 91 = .ok (.idiv, 1) := by decide +kernel
theorem dL_same_92 : decode cL_same 92 = .ok (.istore 4, 2) := by decide +kernel
theorem dL_same_94 : decode cL_same 94 = .ok (.aload_n 0, 1) := by decide +kernel
theorem dL_same_95 : decode cL_same 95 = .ok (.iload_n 3, 1) := by decide +kernel
theorem dL_same_96 : decode cL_same 96 = .ok (.invokevirtual 116, 3) := by decide +kernel
theorem dL_same_99 : decode cL_same 99 = .ok (.aload_n 1, 1) := by decide +kernel
theorem dL_same_100 : decode cL_same 100 = .ok (.iload_n 3, 1) := by decide +kernel
theorem dL_same_101 : decode cL_same 101 = .ok (.invokevirtual 116, 3) := by decide +kernel
theorem dL_same_104 : decode cL_same 104 = .ok (.if_icmp .ne 207, 3) := by decide +kernel
theorem dL_same_107 : decode cL_same 107 = .ok (.aload_n 0, 1) := by decide +kernel
