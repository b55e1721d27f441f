set_option maxRecDepth 20000 in
theorem ggL_hangs_X6_operation : GoodIn wsL_hangs wsX6_operation := goodIn_r _ [238, 8, 17, 239, 208, 6, 209, 21, 22, 23, 248, 249, 250, 251, 252, 253, 254, 255, 256, 257, 258, 259, 260, 275, 276] (by decide +kernel) (by decide +kernel)
set_option maxRecDepth 20000 in
theorem gL_hangs_X6_operation : GoodIn wsL_hangs (wsV RL 116 RX6 yX6_operation wsX6_operation) := goodIn_app (goodIn_of _ (by decide +kernel)) ggL_hangs_X6_operation
set_option maxRecDepth 20000 in
theorem ggL_hangs_X6_operand : GoodIn wsL_hangs wsX6_operand := goodIn_r _ [243, 17, 58, 8, 239, 208, 6, 209, 21, 22, 23, 248, 249, 250, 251, 252, 253, 254, 255, 256, 257, 258, 259, 260, 275, 276] (by decide +kernel) (by decide +kernel)
set_option maxRecDepth 20000 in
theorem gL_hangs_X6_operand : GoodIn wsL_hangs (wsV RL 119 RX6 yX6_operand wsX6_operand) := goodIn_app (goodIn_of _ (by decide +kernel)) ggL_hangs_X6_operand
set_option maxRecDepth 20000 in
theorem ggL_hangs_X6_breakpoint : GoodIn wsL_hangs wsX6_breakpoint := goodIn_r _ [247, 8, 17, 239, 208, 6, 209, 21, 22, 23, 248, 249, 250, 251, 252, 253, 254, 255, 256, 257, 258, 259, 260] (by decide +kernel) (by decide +kernel)
set_option maxRecDepth 20000 in
theorem gL_hangs_X6_breakpoint : GoodIn wsL_hangs (wsV RL 122 RX6 yX6_breakpoint wsX6_breakpoint) := goodIn_app (goodIn_of _ (by decide +kernel)) ggL_hangs_X6_breakpoint
theorem dL_hangs_0 : decode cL_hangs 0 = .ok (.aload_n 0, 1) := by decide +kernel
theorem dL_hangs_1 : decode cL_hangs 1 = .ok (.invokevirtual 71, 3) := by decide +kernel
theorem dL_hangs_4 : decode cL_hangs 4 = .ok (.istore_n 1, 1) := by decide +kernel
theorem dL_hangs_5 : decode cL_hangs 5 = .ok (.aload_n 0, 1) := by decide +kernel
theorem dL_hangs_6 : decode cL_hangs 6 = .ok (.invokevirtual 74, 3) := by decide +kernel
theorem dL_hangs_9 : decode cL_hangs 9 = .ok (.istore_n 2, 1) := by decide +kernel
theorem dL_hangs_10 : decode cL_hangs 10 = .ok (.iconst 0, 1) := by decide +kernel
theorem dL_hangs_11 : decode cL_hangs 11 = .ok (.istore_n 3, 1) := by decide +kernel
theorem dL_hangs_12 : decode cL_hangs 12 = .ok (.iconst 1, 1) := by decide +kernel
theorem dL_hangs_13 : decode cL_hangs 13 = .ok (.istore 4, 2) := by decide +kernel
theorem dL_hangs_15 : decode cL_hangs 15 = .ok (.iconst 0, 1) := by decide +kernel
theorem dL_hangs_16 : decode cL_hangs 16 = .ok (.istore 5, 2) := by decide +kernel
theorem dL_hangs_18 : decode cL_hangs 18 = .ok (.iconst 0, 1) := by decide +kernel
theorem dL_hangs_19 : decode cL_hangs 19 = .ok (.istore 6, 2) := by decide +kernel
theorem dL_hangs_21 : decode cL_hangs 21 = .ok (.iload_n 1, 1) := by decide +kernel
theorem dL_hangs_22 : decode cL_hangs 22 = .ok (.ifCond .lt 51, 3) := by decide +kernel
theorem dL_hangs_25 : decode cL_hangs 25 = .ok (.iload_n 2, 1) := by decide +kernel
theorem dL_hangs_26 : decode cL_hangs 26 = .ok (.ifCond .lt 47, 3) := by decide +kernel
theorem dL_hangs_29 : decode cL_hangs 29 = .ok (.iload_n 2, 1) := by decide +kernel
theorem dL_hangs_30 : decode cL_hangs 30 = .ok (.iload_n 1, 1) := by decide +kernel
theorem dL_hangs_31 : decode cL_hangs 31 = .ok (.if_icmp .gt 42, 3) := by decide +kernel
theorem dL_hangs_34 : decode cL_hangs 34 = .ok (.aload_n 0, 1) := by decide +kernel
theorem dL_hangs_35 : decode cL_hangs 35 = .ok (.iconst 0, 1) := by decide +kernel
theorem dL_hangs_36 : decode cL_hangs 36 = .ok (.invokevirtual 77, 3) := by decide +kernel
theorem dL_hangs_39 : decode cL_hangs 39 = .ok (.ifCond .lt 34, 3) := by decide +kernel
theorem dL_hangs_42 : decode cL_hangs 42 = .ok (.aload_n 0, 1) := by decide +kernel
theorem dL_hangs_43 : decode cL_hangs 43 = .ok (.iconst 0, 1) := by decide +kernel
theorem dL_hangs_44 : decode cL_hangs 44 = .ok (.invokevirtual 77, 3) := by decide +kernel
theorem dL_hangs_47 : decode cL_hangs 47 = .ok (.bipush 21, 2) := by decide +kernel
theorem dL_hangs_49 : decode cL_hangs 49 = .ok (.if_icmp .ge 24, 3) := by decide +kernel
theorem dL_hangs_52 : decode cL_hangs 52 = .ok (.aload_n 0, 1) := by decide +kernel
theorem dL_hangs_53 : decode cL_hangs 53 = .ok (.iconst 1, 1) := by decide +kernel
theorem dL_hangs_54 : decode cL_hangs 54 = .ok (.invokevirtual 77, 3) := by decide +kernel
theorem dL_hangs_57 : decode cL_hangs 57 = .ok (.ifCond .lt 16, 3) := by decide +kernel
theorem dL_hangs_60 : decode cL_hangs 60 = .ok (.aload_n 0, 1) := by decide +kernel
theorem dL_hangs_61 : decode cL_hangs 61 = .ok (.iconst 1, 1) := by decide +kernel
theorem dL_hangs_62 : decode cL_hangs 62 = .ok (.invokevirtual 77, 3) := by decide +kernel
theorem dL_hangs_65 : decode cL_hangs 65 = .ok (.iconst 3, 1) := by decide +kernel
theorem dL_hangs_66 : decode cL_hangs 66 = .ok (.if_icmp .ge 7, 3) := by decide +kernel
theorem dL_hangs_69 : decode cL_hangs 69 = .ok (.iconst 1, 1) := by decide +kernel
theorem dL_hangs_70 : decode cL_hangs 70 = .ok (.goto 4, 3) := by decide +kernel
theorem dL_hangs_73 : decode cL_hangs 73 = .ok (.iconst 0, 1) := by decide +kernel
theorem dL_hangs_74 : decode cL_hangs 74 = .ok (.istore 7, 2) := by decide +kernel
theorem dL_hangs_76 : decode cL_hangs 76 = .ok (.iconst 0, 1) := by decide +kernel
theorem dL_hangs_77 : decode cL_hangs 77 = .ok (.istore 8, 2) := by decide +kernel
theorem dL_hangs_79 : decode cL_hangs 79 = .ok (.iload 8, 2) := by decide +kernel
theorem dL_hangs_81 : decode cL_hangs 81 = .ok (.iconst 4, 1) := by decide +kernel
theorem dL_hangs_82 : decode cL_hangs 82 = .ok (.if_icmp .ge 203, 3) := by decide +kernel
theorem dL_hangs_85 : decode cL_hangs 85 = .ok (.iload 7, 2) := by decide +kernel
theorem dL_hangs_87 : decode cL_hangs 87 = .ok (.ifCond .eq 198, 3) := by decide +kernel
theorem dL_hangs_90 : decode cL_hangs 90 = .ok (.aload_n 0, 1) := by decide +kernel
theorem dL_hangs_91 : decode cL_hangs 91 = .ok (.iload 8, 2) := by decide +kernel
theorem dL_hangs_93 : decode cL_hangs 93 = .ok (.invokevirtual 80, 3) := by decide +kernel
theorem dL_hangs_96 : decode cL_hangs 96 = .ok (.istore 9, 2) := by decide +kernel
theorem dL_hangs_98 : decode cL_hangs 98 = .ok (.iload_n 3, 1) := by decide +kernel
theorem dL_hangs_99 : decode cL_hangs 99 = .ok (.aload_n 0, 1) := by decide +kernel
theorem dL_hangs_100 : decode cL_hangs 100 = .ok (.iload 8, 2) := by decide +kernel
theorem dL_hangs_102 : decode cL_hangs 102 = .ok (.invokevirtual 83, 3) := by decide +kernel
theorem dL_hangs_105 : decode cL_hangs 105 = .ok (.iadd, 1) := by decide +kernel
theorem dL_hangs_106 : decode cL_hangs 106 = .ok (.istore_n 3, 1) := by decide +kernel
theorem dL_hangs_107 : decode cL_hangs 107 = .ok (.iload 4, 2) := by decide +kernel
theorem dL_hangs_109 : decode cL_hangs 109 = .ok (.ifCond .eq 12, 3) := by decide +kernel
theorem dL_hangs_112 : decode cL_hangs 112 = .ok (.iload 9, 2) := by decide +kernel
theorem dL_hangs_114 : decode cL_hangs 114 = .ok (.ifCond .ne 7, 3) := by decide +kernel
theorem dL_hangs_117 : decode cL_hangs 117 = .ok (.iconst 1, 1) := by decide +kernel
theorem dL_hangs_118 : decode cL_hangs 118 = .ok (.goto 4, 3) := by decide +kernel
theorem dL_hangs_121 : decode cL_hangs 121 = .ok (.iconst 0, 1) := by decide +kernel
theorem dL_hangs_122 : decode cL_hangs 122 = .ok (.istore 4, 2) := by decide +kernel
theorem dL_hangs_124 : decode cL_hangs 124 = .ok (.iload 5, 2) := by decide +kernel
theorem dL_hangs_126 : decode cL_hangs 126 = .ok (.ifCond .ne 9, 3) := by decide +kernel
theorem dL_hangs_129 : decode cL_hangs 129 = .ok (.iload 9, 2) := by decide +kernel
theorem dL_hangs_131 : decode cL_hangs 131 = .ok (.iconst 1, 1) := by decide +kernel
theorem dL_hangs_132 : decode cL_hangs 132 = .ok (.if_icmp .ne 7, 3) := by decide +kernel
theorem dL_hangs_135 : decode cL_hangs 135 = .ok (.iconst 1, 1) := by decide +kernel
theorem dL_hangs_136 : decode cL_hangs 136 = .ok (.goto 4, 3) := by decide +kernel
theorem dL_hangs_139 : decode cL_hangs 139 = .ok (.iconst 0, 1) := by decide +kernel
theorem dL_hangs_140 : decode cL_hangs 140 = .ok (.istore 5, 2) := by decide +kernel
theorem dL_hangs_142 : decode cL_hangs 142 = .ok (.iload 6, 2) := by decide +kernel
theorem dL_hangs_144 : decode cL_hangs 144 = .ok (.ifCond .ne 9, 3) := by decide +kernel
theorem dL_hangs_147 : decode cL_hangs 147 = .ok (.iload 9, 2) := by decide +kernel
