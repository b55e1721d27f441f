theorem dL_cell_0 : decode cL_cell 0 = .ok (.iload_n 1, 1) := by decide +kernel
theorem dL_cell_1 : decode cL_cell 1 = .ok (.aload_n 0, 1) := by decide +kernel
theorem dL_cell_2 : decode cL_cell 2 = .ok (.arraylength, 1) := by decide +kernel
theorem dL_cell_3 : decode cL_cell 3 = .ok (.if_icmp .ge 9, 3) := by decide +kernel
theorem dL_cell_6 : decode cL_cell 6 = .ok (.aload_n 0, 1) := by decide +kernel
theorem dL_cell_7 : decode cL_cell 7 = .ok (.iload_n 1, 1) := by decide +kernel
theorem dL_cell_8 : decode cL_cell 8 = .ok (.iaload, 1) := by decide +kernel
theorem dL_cell_9 : decode cL_cell 9 = .ok (.goto 12, 3) := by decide +kernel
theorem dL_cell_12 : decode cL_cell 12 = .ok (.ldc 7, 2) := by decide +kernel
theorem dL_cell_14 : decode cL_cell 14 = .ok (.iload_n 1, 1) := by decide +kernel
theorem dL_cell_15 : decode cL_cell 15 = .ok (.iconst 5, 1) := by decide +kernel
theorem dL_cell_16 : decode cL_cell 16 = .ok (.iadd, 1) := by decide +kernel
theorem dL_cell_17 : decode cL_cell 17 = .ok (.imul, 1) := by decide +kernel
theorem dL_cell_18 : decode cL_cell 18 = .ok (.bipush 23, 2) := by decide +kernel
theorem dL_cell_20 : decode cL_cell 20 = .ok (.iadd, 1) := by decide +kernel
theorem dL_cell_21 : decode cL_cell 21 = .ok (.ldc 8, 2) := by decide +kernel
theorem dL_cell_23 : decode cL_cell 23 = .ok (.iand, 1) := by decide +kernel
theorem dL_cell_24 : decode cL_cell 24 = .ok (.ireturn, 1) := by decide +kernel
theorem dL_letter_0 : decode cL_letter 0 = .ok (.iload_n 0, 1) := by decide +kernel
theorem dL_letter_1 : decode cL_letter 1 = .ok (.bipush 8, 2) := by decide +kernel
theorem dL_letter_3 : decode cL_letter 3 = .ok (.if_icmp .ge 17, 3) := by decide +kernel
theorem dL_letter_6 : decode cL_letter 6 = .ok (.ldc2_w 9, 3) := by decide +kernel
theorem dL_letter_9 : decode cL_letter 9 = .ok (.bipush 56, 2) := by decide +kernel
theorem dL_letter_11 : decode cL_letter 11 = .ok (.bipush 8, 2) := by decide +kernel
theorem dL_letter_13 : decode cL_letter 13 = .ok (.iload_n 0, 1) := by decide +kernel
theorem dL_letter_14 : decode cL_letter 14 = .ok (.imul, 1) := by decide +kernel
theorem dL_letter_15 : decode cL_letter 15 = .ok (.isub, 1) := by decide +kernel
theorem dL_letter_16 : decode cL_letter 16 = .ok (.lshr, 1) := by decide +kernel
theorem dL_letter_17 : decode cL_letter 17 = .ok (.goto 14, 3) := by decide +kernel
theorem dL_letter_20 : decode cL_letter 20 = .ok (.ldc2_w 11, 3) := by decide +kernel
theorem dL_letter_23 : decode cL_letter 23 = .ok (.bipush 88, 2) := by decide +kernel
theorem dL_letter_25 : decode cL_letter 25 = .ok (.bipush 8, 2) := by decide +kernel
theorem dL_letter_27 : decode cL_letter 27 = .ok (.iload_n 0, 1) := by decide +kernel
theorem dL_letter_28 : decode cL_letter 28 = .ok (.imul, 1) := by decide +kernel
theorem dL_letter_29 : decode cL_letter 29 = .ok (.isub, 1) := by decide +kernel
theorem dL_letter_30 : decode cL_letter 30 = .ok (.lshr, 1) := by decide +kernel
theorem dL_letter_31 : decode cL_letter 31 = .ok (.l2i, 1) := by decide +kernel
theorem dL_letter_32 : decode cL_letter 32 = .ok (.sipush 255, 3) := by decide +kernel
theorem dL_letter_35 : decode cL_letter 35 = .ok (.iand, 1) := by decide +kernel
theorem dL_letter_36 : decode cL_letter 36 = .ok (.ireturn, 1) := by decide +kernel
set_option maxRecDepth 20000 in
theorem ggL_number_X6_append : GoodIn wsL_number wsX6_append := goodIn_r _ [5, 6, 7, 8, 9, 10, 4, 11, 12, 13, 14, 15, 16, 17, 18, 19, 20, 21, 22, 23, 24, 25, 26, 27, 28] (by decide +kernel) (by decide +kernel)
set_option maxRecDepth 20000 in
theorem gL_number_X6_append : GoodIn wsL_number (wsV RL 13 RX6 yX6_append wsX6_append) := goodIn_app (goodIn_of _ (by decide +kernel)) ggL_number_X6_append
theorem dL_number_0 : decode cL_number 0 = .ok (.iload_n 1, 1) := by decide +kernel
theorem dL_number_1 : decode cL_number 1 = .ok (.ifCond .ge 12, 3) := by decide +kernel
theorem dL_number_4 : decode cL_number 4 = .ok (.aload_n 0, 1) := by decide +kernel
theorem dL_number_5 : decode cL_number 5 = .ok (.bipush 45, 2) := by decide +kernel
theorem dL_number_7 : decode cL_number 7 = .ok (.invokevirtual 13, 3) := by decide +kernel
theorem dL_number_10 : decode cL_number 10 = .ok (.goto 4, 3) := by decide +kernel
theorem dL_number_13 : decode cL_number 13 = .ok (.iconst 0, 1) := by decide +kernel
theorem dL_number_14 : decode cL_number 14 = .ok (.istore_n 2, 1) := by decide +kernel
theorem dL_number_15 : decode cL_number 15 = .ok (.iload_n 1, 1) := by decide +kernel
theorem dL_number_16 : decode cL_number 16 = .ok (.ifCond .ge 8, 3) := by decide +kernel
theorem dL_number_19 : decode cL_number 19 = .ok (.iload_n 1, 1) := by decide +kernel
theorem dL_number_20 : decode cL_number 20 = .ok (.ineg, 1) := by decide +kernel
theorem dL_number_21 : decode cL_number 21 = .ok (.goto 4, 3) := by decide +kernel
theorem dL_number_24 : decode cL_number 24 = .ok (.iload_n 1, 1) := by decide +kernel
theorem dL_number_25 : decode cL_number 25 = .ok (.istore_n 3, 1) := by decide +kernel
theorem dL_number_26 : decode cL_number 26 = .ok (.iload_n 3, 1) := by decide +kernel
theorem dL_number_27 : decode cL_number 27 = .ok (.bipush 9, 2) := by decide +kernel
theorem dL_number_29 : decode cL_number 29 = .ok (.if_icmp .le 17, 3) := by decide +kernel
theorem dL_number_32 : decode cL_number 32 = .ok (.aload_n 0, 1) := by decide +kernel
theorem dL_number_33 : decode cL_number 33 = .ok (.bipush 48, 2) := by decide +kernel
theorem dL_number_35 : decode cL_number 35 = .ok (.iload_n 3, 1) := by decide +kernel
theorem dL_number_36 : decode cL_number 36 = .ok (.bipush 10, 2) := by decide +kernel
theorem dL_number_38 : decode cL_number 38 = .ok (.idiv, 1) := by decide +kernel
theorem dL_number_39 : decode cL_number 39 = .ok (.iadd, 1) := by decide +kernel
theorem dL_number_40 : decode cL_number 40 = .ok (.invokevirtual 13, 3) := by decide +kernel
theorem dL_number_43 : decode cL_number 43 = .ok (.goto 4, 3) := by decide +kernel
theorem dL_number_46 : decode cL_number 46 = .ok (.iload_n 2, 1) := by decide +kernel
theorem dL_number_47 : decode cL_number 47 = .ok (.istore_n 2, 1) := by decide +kernel
theorem dL_number_48 : decode cL_number 48 = .ok (.aload_n 0, 1) := by decide +kernel
theorem dL_number_49 : decode cL_number 49 = .ok (.bipush 48, 2) := by decide +kernel
theorem dL_number_51 : decode cL_number 51 = .ok (.iload_n 3, 1) := by decide +kernel
theorem dL_number_52 : decode cL_number 52 = .ok (.bipush 10, 2) := by decide +kernel
theorem dL_number_54 : decode cL_number 54 = .ok (.irem, 1) := by decide +kernel
theorem dL_number_55 : decode cL_number 55 = .ok (.iadd, 1) := by decide +kernel
theorem dL_number_56 : decode cL_number 56 = .ok (.invokevirtual 13, 3) := by decide +kernel
theorem dL_number_59 : decode cL_number 59 = .ok (.ireturn, 1) := by decide +kernel
set_option maxRecDepth 20000 in
theorem ggL_types_L_letter : GoodIn wsL_types wsL_letter := goodIn_r _ [4, 5, 6] (by decide +kernel) (by decide +kernel)
set_option maxRecDepth 20000 in
theorem gL_types_L_letter : GoodIn wsL_types (va_wsS RL 19 yL_letter wsL_letter) := goodIn_app (goodIn_of _ (by decide +kernel)) ggL_types_L_letter
set_option maxRecDepth 20000 in
theorem ggL_types_X6_append : GoodIn wsL_types wsX6_append := goodIn_r _ [11, 12, 13, 14, 15, 16, 10, 17, 18, 19, 20, 21, 22, 23, 24, 28, 29, 30, 31, 32, 33, 34, 35, 36, 37] (by decide +kernel) (by decide +kernel)
set_option maxRecDepth 20000 in
theorem gL_types_X6_append : GoodIn wsL_types (wsV RL 13 RX6 yX6_append wsX6_append) := goodIn_app (goodIn_of _ (by decide +kernel)) ggL_types_X6_append
