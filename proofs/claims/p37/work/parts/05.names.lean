set_option maxRecDepth 20000 in
theorem ggX4_findFault_X4_readInstruction : GoodIn wsX4_findFault wsX4_readInstruction := goodIn_r _ [9, 1, 3, 2, 10, 11, 12, 13, 14, 15, 16, 17, 18, 19, 20, 21, 22, 23, 24, 25, 26, 27, 28, 29, 30, 31, 32, 33, 34, 35, 36, 37, 38, 39, 40, 41, 42, 43, 44, 45, 46, 47, 48, 49, 50, 51, 52, 53, 54, 55, 56, 57, 58, 59, 60, 61, 62, 63, 64, 65, 66, 67, 68, 69, 70, 71, 72, 73, 74, 75, 76, 77, 78, 79, 80, 81, 82, 83, 84, 85, 86, 87, 88, 89, 90, 91, 92, 93, 94, 95, 96, 97, 98, 99, 100, 101, 102, 8, 103, 104, 4, 105, 106, 107, 108, 109, 110, 111, 112, 113, 114, 115, 116, 117, 118, 119, 120, 121, 122, 123, 124, 125, 126, 127, 128, 129, 130, 131, 132, 133, 134, 135, 136, 137, 138, 139, 140, 141, 142, 143, 144, 145, 146, 147, 148, 149] (by decide +kernel) (by decide +kernel)
set_option maxRecDepth 20000 in
theorem gX4_findFault_X4_readInstruction : GoodIn wsX4_findFault (wsV RX4 32 RX4 yX4_readInstruction wsX4_readInstruction) := goodIn_app (goodIn_of _ (by decide +kernel)) ggX4_findFault_X4_readInstruction
set_option maxRecDepth 20000 in
theorem ggX4_findFault_X4_readSign : GoodIn wsX4_findFault wsX4_readSign := goodIn_r _ [132, 1, 3, 10, 142, 143, 144, 145, 146, 147] (by decide +kernel) (by decide +kernel)
set_option maxRecDepth 20000 in
theorem gX4_findFault_X4_readSign : GoodIn wsX4_findFault (wsV RX4 36 RX4 yX4_readSign wsX4_readSign) := goodIn_app (goodIn_of _ (by decide +kernel)) ggX4_findFault_X4_readSign
theorem dX4_findFault_0 : decode cX4_findFault 0 = .ok (.aload_n 0, 1) := by decide +kernel
theorem dX4_findFault_1 : decode cX4_findFault 1 = .ok (.iconst 0, 1) := by decide +kernel
theorem dX4_findFault_2 : decode cX4_findFault 2 = .ok (.putfield 26, 3) := by decide +kernel
theorem dX4_findFault_5 : decode cX4_findFault 5 = .ok (.aload_n 0, 1) := by decide +kernel
theorem dX4_findFault_6 : decode cX4_findFault 6 = .ok (.iconst 0, 1) := by decide +kernel
theorem dX4_findFault_7 : decode cX4_findFault 7 = .ok (.putfield 29, 3) := by decide +kernel
theorem dX4_findFault_10 : decode cX4_findFault 10 = .ok (.aload_n 0, 1) := by decide +kernel
theorem dX4_findFault_11 : decode cX4_findFault 11 = .ok (.invokevirtual 32, 3) := by decide +kernel
theorem dX4_findFault_14 : decode cX4_findFault 14 = .ok (.istore_n 1, 1) := by decide +kernel
theorem dX4_findFault_15 : decode cX4_findFault 15 = .ok (.iconst 0, 1) := by decide +kernel
theorem dX4_findFault_16 : decode cX4_findFault 16 = .ok (.istore_n 2, 1) := by decide +kernel
theorem dX4_findFault_17 : decode cX4_findFault 17 = .ok (.iload_n 2, 1) := by decide +kernel
theorem dX4_findFault_18 : decode cX4_findFault 18 = .ok (.bipush 100, 2) := by decide +kernel
theorem dX4_findFault_20 : decode cX4_findFault 20 = .ok (.if_icmp .ge 46, 3) := by decide +kernel
theorem dX4_findFault_23 : decode cX4_findFault 23 = .ok (.iload_n 1, 1) := by decide +kernel
theorem dX4_findFault_24 : decode cX4_findFault 24 = .ok (.ifCond .eq 42, 3) := by decide +kernel
theorem dX4_findFault_27 : decode cX4_findFault 27 = .ok (.aload_n 0, 1) := by decide +kernel
theorem dX4_findFault_28 : decode cX4_findFault 28 = .ok (.getfield 26, 3) := by decide +kernel
theorem dX4_findFault_31 : decode cX4_findFault 31 = .ok (.aload_n 0, 1) := by decide +kernel
theorem dX4_findFault_32 : decode cX4_findFault 32 = .ok (.getfield 22, 3) := by decide +kernel
theorem dX4_findFault_35 : decode cX4_findFault 35 = .ok (.if_icmp .ge 31, 3) := by decide +kernel
theorem dX4_findFault_38 : decode cX4_findFault 38 = .ok (.aload_n 0, 1) := by decide +kernel
theorem dX4_findFault_39 : decode cX4_findFault 39 = .ok (.bipush 59, 2) := by decide +kernel
theorem dX4_findFault_41 : decode cX4_findFault 41 = .ok (.invokevirtual 36, 3) := by decide +kernel
theorem dX4_findFault_44 : decode cX4_findFault 44 = .ok (.ifCond .eq 14, 3) := by decide +kernel
theorem dX4_findFault_47 : decode cX4_findFault 47 = .ok (.aload_n 0, 1) := by decide +kernel
theorem dX4_findFault_48 : decode cX4_findFault 48 = .ok (.invokevirtual 32, 3) := by decide +kernel
theorem dX4_findFault_51 : decode cX4_findFault 51 = .ok (.ifCond .eq 7, 3) := by decide +kernel
theorem dX4_findFault_54 : decode cX4_findFault 54 = .ok (.iconst 1, 1) := by decide +kernel
theorem dX4_findFault_55 : decode cX4_findFault 55 = .ok (.goto 4, 3) := by decide +kernel
theorem dX4_findFault_58 : decode cX4_findFault 58 = .ok (.iconst 0, 1) := by decide +kernel
theorem dX4_findFault_59 : decode cX4_findFault 59 = .ok (.istore_n 1, 1) := by decide +kernel
theorem dX4_findFault_60 : decode cX4_findFault 60 = .ok (.iinc 2 1, 3) := by decide +kernel
theorem dX4_findFault_63 : decode cX4_findFault 63 = .ok (.goto (-46), 3) := by decide +kernel
theorem dX4_findFault_66 : decode cX4_findFault 66 = .ok (.iload_n 1, 1) := by decide +kernel
theorem dX4_findFault_67 : decode cX4_findFault 67 = .ok (.ifCond .eq 8, 3) := by decide +kernel
theorem dX4_findFault_70 : decode cX4_findFault 70 = .ok (.ldc 40, 2) := by decide +kernel
theorem dX4_findFault_72 : decode cX4_findFault 72 = .ok (.goto 7, 3) := by decide +kernel
theorem dX4_findFault_75 : decode cX4_findFault 75 = .ok (.aload_n 0, 1) := by decide +kernel
theorem dX4_findFault_76 : decode cX4_findFault 76 = .ok (.getfield 26, 3) := by decide +kernel
theorem dX4_findFault_79 : decode cX4_findFault 79 = .ok (.ireturn, 1) := by decide +kernel
set_option maxRecDepth 20000 in
theorem ggX4_readInstruction_J0_indexOf_0f7a4 : GoodIn wsX4_readInstruction wsJ0_indexOf_0f7a4 := goodIn_r _ [9, 10, 11, 12, 8, 13, 14, 15, 16, 17, 18, 19, 20, 21, 22, 23, 24, 25, 26, 27, 28, 29, 30, 31, 32, 33, 34, 35, 36, 37, 38, 39, 40, 41, 42, 43, 44, 45, 46, 47, 48, 49, 50, 51, 52, 53, 54, 55, 56, 57, 58, 59, 60, 61, 62, 63, 64, 65, 66, 67, 68, 69, 70, 71, 72, 73, 74, 75, 76, 77, 78, 79, 80, 81, 82, 83, 84, 85, 86, 87, 88, 89, 90, 91, 92, 93] (by decide +kernel) (by decide +kernel)
set_option maxRecDepth 20000 in
theorem gX4_readInstruction_J0_indexOf_0f7a4 : GoodIn wsX4_readInstruction (wsV RX4 43 RJ0 yJ0_indexOf_0f7a4 wsJ0_indexOf_0f7a4) := goodIn_app (goodIn_of _ (by decide +kernel)) ggX4_readInstruction_J0_indexOf_0f7a4
set_option maxRecDepth 20000 in
theorem ggX4_readInstruction_X4_beginRow : GoodIn wsX4_readInstruction wsX4_beginRow := goodIn_r _ [98, 99, 3, 100, 101, 138, 139, 140, 141, 142, 143, 144, 145] (by decide +kernel) (by decide +kernel)
set_option maxRecDepth 20000 in
theorem gX4_readInstruction_X4_beginRow : GoodIn wsX4_readInstruction (wsV RX4 49 RX4 yX4_beginRow wsX4_beginRow) := goodIn_app (goodIn_of _ (by decide +kernel)) ggX4_readInstruction_X4_beginRow
set_option maxRecDepth 20000 in
theorem ggX4_readInstruction_X4_readOperands : GoodIn wsX4_readInstruction wsX4_readOperands := goodIn_r _ [105, 106, 107, 108, 97, 109, 110, 111, 112, 113, 1, 2, 4, 114, 115, 116, 117, 118, 119, 120, 121, 122, 123, 124, 101, 99, 3, 125, 126, 127, 128, 129, 130, 131, 132, 133, 134, 135, 136, 137, 38, 35, 39, 138, 139, 140, 141, 142, 143, 144, 145] (by decide +kernel) (by decide +kernel)
set_option maxRecDepth 20000 in
theorem gX4_readInstruction_X4_readOperands : GoodIn wsX4_readInstruction (wsV RX4 53 RX4 yX4_readOperands wsX4_readOperands) := goodIn_app (goodIn_of _ (by decide +kernel)) ggX4_readInstruction_X4_readOperands
theorem dX4_readInstruction_0 : decode cX4_readInstruction 0 = .ok (.aload_n 0, 1) := by decide +kernel
theorem dX4_readInstruction_1 : decode cX4_readInstruction 1 = .ok (.getfield 26, 3) := by decide +kernel
theorem dX4_readInstruction_4 : decode cX4_readInstruction 4 = .ok (.aload_n 0, 1) := by decide +kernel
theorem dX4_readInstruction_5 : decode cX4_readInstruction 5 = .ok (.getfield 22, 3) := by decide +kernel
theorem dX4_readInstruction_8 : decode cX4_readInstruction 8 = .ok (.if_icmp .ge 12, 3) := by decide +kernel
theorem dX4_readInstruction_11 : decode cX4_readInstruction 11 = .ok (.aload_n 0, 1) := by decide +kernel
theorem dX4_readInstruction_12 : decode cX4_readInstruction 12 = .ok (.getfield 29, 3) := by decide +kernel
theorem dX4_readInstruction_15 : decode cX4_readInstruction 15 = .ok (.bipush 50, 2) := by decide +kernel
theorem dX4_readInstruction_17 : decode cX4_readInstruction 17 = .ok (.if_icmp .lt 5, 3) := by decide +kernel
theorem dX4_readInstruction_20 : decode cX4_readInstruction 20 = .ok (.iconst 0, 1) := by decide +kernel
theorem dX4_readInstruction_21 : decode cX4_readInstruction 21 = .ok (.ireturn, 1) := by decide +kernel
theorem dX4_readInstruction_22 : decode cX4_readInstruction 22 = .ok (.ldc 41, 2) := by decide +kernel
theorem dX4_readInstruction_24 : decode cX4_readInstruction 24 = .ok (.aload_n 0, 1) := by decide +kernel
theorem dX4_readInstruction_25 : decode cX4_readInstruction 25 = .ok (.getfield 11, 3) := by decide +kernel
theorem dX4_readInstruction_28 : decode cX4_readInstruction 28 = .ok (.aload_n 0, 1) := by decide +kernel
theorem dX4_readInstruction_29 : decode cX4_readInstruction 29 = .ok (.getfield 26, 3) := by decide +kernel
theorem dX4_readInstruction_32 : decode cX4_readInstruction 32 = .ok (.caload, 1) := by decide +kernel
theorem dX4_readInstruction_33 : decode cX4_readInstruction 33 = .ok (.invokevirtual 43, 3) := by decide +kernel
theorem dX4_readInstruction_36 : decode cX4_readInstruction 36 = .ok (.istore_n 1, 1) := by decide +kernel
theorem dX4_readInstruction_37 : decode cX4_readInstruction 37 = .ok (.iload_n 1, 1) := by decide +kernel
theorem dX4_readInstruction_38 : decode cX4_readInstruction 38 = .ok (.ifCond .ge 5, 3) := by decide +kernel
theorem dX4_readInstruction_41 : decode cX4_readInstruction 41 = .ok (.iconst 0, 1) := by decide +kernel
theorem dX4_readInstruction_42 : decode cX4_readInstruction 42 = .ok (.ireturn, 1) := by decide +kernel
theorem dX4_readInstruction_43 : decode cX4_readInstruction 43 = .ok (.aload_n 0, 1) := by decide +kernel
theorem dX4_readInstruction_44 : decode cX4_readInstruction 44 = .ok (.dup, 1) := by decide +kernel
theorem dX4_readInstruction_45 : decode cX4_readInstruction 45 = .ok (.getfield 26, 3) := by decide +kernel
theorem dX4_readInstruction_48 : decode cX4_readInstruction 48 = .ok (.iconst 1, 1) := by decide +kernel
theorem dX4_readInstruction_49 : decode cX4_readInstruction 49 = .ok (.iadd, 1) := by decide +kernel
theorem dX4_readInstruction_50 : decode cX4_readInstruction 50 = .ok (.putfield 26, 3) := by decide +kernel
theorem dX4_readInstruction_53 : decode cX4_readInstruction 53 = .ok (.aload_n 0, 1) := by decide +kernel
theorem dX4_readInstruction_54 : decode cX4_readInstruction 54 = .ok (.iload_n 1, 1) := by decide +kernel
theorem dX4_readInstruction_55 : decode cX4_readInstruction 55 = .ok (.invokevirtual 49, 3) := by decide +kernel
theorem dX4_readInstruction_58 : decode cX4_readInstruction 58 = .ok (.aload_n 0, 1) := by decide +kernel
theorem dX4_readInstruction_59 : decode cX4_readInstruction 59 = .ok (.iload_n 1, 1) := by decide +kernel
theorem dX4_readInstruction_60 : decode cX4_readInstruction 60 = .ok (.invokevirtual 53, 3) := by decide +kernel
theorem dX4_readInstruction_63 : decode cX4_readInstruction 63 = .ok (.ifCond .ne 5, 3) := by decide +kernel
theorem dX4_readInstruction_66 : decode cX4_readInstruction 66 = .ok (.iconst 0, 1) := by decide +kernel
theorem dX4_readInstruction_67 : decode cX4_readInstruction 67 = .ok (.ireturn, 1) := by decide +kernel
theorem dX4_readInstruction_68 : decode cX4_readInstruction 68 = .ok (.aload_n 0, 1) := by decide +kernel
theorem dX4_readInstruction_69 : decode cX4_readInstruction 69 = .ok (.dup, 1) := by decide +kernel
theorem dX4_readInstruction_70 : decode cX4_readInstruction 70 = .ok (.getfield 29, 3) := by decide +kernel
theorem dX4_readInstruction_73 : decode cX4_readInstruction 73 = .ok (.iconst 1, 1) := by decide +kernel
theorem dX4_readInstruction_74 : decode cX4_readInstruction 74 = .ok (.iadd, 1) := by decide +kernel
theorem dX4_readInstruction_75 : decode cX4_readInstruction 75 = .ok (.putfield 29, 3) := by decide +kernel
theorem dX4_readInstruction_78 : decode cX4_readInstruction 78 = .ok (.iconst 1, 1) := by decide +kernel
theorem dX4_readInstruction_79 : decode cX4_readInstruction 79 = .ok (.ireturn, 1) := by decide +kernel
theorem dX4_beginRow_0 : decode cX4_beginRow 0 = .ok (.aload_n 0, 1) := by decide +kernel
theorem dX4_beginRow_1 : decode cX4_beginRow 1 = .ok (.getfield 18, 3) := by decide +kernel
theorem dX4_beginRow_4 : decode cX4_beginRow 4 = .ok (.getfield 57, 3) := by decide +kernel
theorem dX4_beginRow_7 : decode cX4_beginRow 7 = .ok (.aload_n 0, 1) := by decide +kernel
theorem dX4_beginRow_8 : decode cX4_beginRow 8 = .ok (.getfield 29, 3) := by decide +kernel
theorem dX4_beginRow_11 : decode cX4_beginRow 11 = .ok (.iload_n 1, 1) := by decide +kernel
theorem dX4_beginRow_12 : decode cX4_beginRow 12 = .ok (.iastore, 1) := by decide +kernel
theorem dX4_beginRow_13 : decode cX4_beginRow 13 = .ok (.aload_n 0, 1) := by decide +kernel
theorem dX4_beginRow_14 : decode cX4_beginRow 14 = .ok (.getfield 18, 3) := by decide +kernel
theorem dX4_beginRow_17 : decode cX4_beginRow 17 = .ok (.getfield 61, 3) := by decide +kernel
theorem dX4_beginRow_20 : decode cX4_beginRow 20 = .ok (.aload_n 0, 1) := by decide +kernel
theorem dX4_beginRow_21 : decode cX4_beginRow 21 = .ok (.getfield 29, 3) := by decide +kernel
theorem dX4_beginRow_24 : decode cX4_beginRow 24 = .ok (.iconst 2, 1) := by decide +kernel
theorem dX4_beginRow_25 : decode cX4_beginRow 25 = .ok (.imul, 1) := by decide +kernel
theorem dX4_beginRow_26 : decode cX4_beginRow 26 = .ok (.ldc 40, 2) := by decide +kernel
theorem dX4_beginRow_28 : decode cX4_beginRow 28 = .ok (.iastore, 1) := by decide +kernel
theorem dX4_beginRow_29 : decode cX4_beginRow 29 = .ok (.aload_n 0, 1) := by decide +kernel
theorem dX4_beginRow_30 : decode cX4_beginRow 30 = .ok (.getfield 18, 3) := by decide +kernel
theorem dX4_beginRow_33 : decode cX4_beginRow 33 = .ok (.getfield 61, 3) := by decide +kernel
theorem dX4_beginRow_36 : decode cX4_beginRow 36 = .ok (.aload_n 0, 1) := by decide +kernel
theorem dX4_beginRow_37 : decode cX4_beginRow 37 = .ok (.getfield 29, 3) := by decide +kernel
theorem dX4_beginRow_40 : decode cX4_beginRow 40 = .ok (.iconst 2, 1) := by decide +kernel
theorem dX4_beginRow_41 : decode cX4_beginRow 41 = .ok (.imul, 1) := by decide +kernel
theorem dX4_beginRow_42 : decode cX4_beginRow 42 = .ok (.iconst 1, 1) := by decide +kernel
theorem dX4_beginRow_43 : decode cX4_beginRow 43 = .ok (.iadd, 1) := by decide +kernel
theorem dX4_beginRow_44 : decode cX4_beginRow 44 = .ok (.ldc 40, 2) := by decide +kernel
theorem dX4_beginRow_46 : decode cX4_beginRow 46 = .ok (.iastore, 1) := by decide +kernel
theorem dX4_beginRow_47 : decode cX4_beginRow 47 = .ok (.aload_n 0, 1) := by decide +kernel
theorem dX4_beginRow_48 : decode cX4_beginRow 48 = .ok (.iconst 0, 1) := by decide +kernel
theorem dX4_beginRow_49 : decode cX4_beginRow 49 = .ok (.putfield 64, 3) := by decide +kernel
theorem dX4_beginRow_52 : decode cX4_beginRow 52 = .ok (.return_, 1) := by decide +kernel
set_option maxRecDepth 20000 in
theorem ggX4_readOperands_X4_readRegister : GoodIn wsX4_readOperands wsX4_readRegister := goodIn_r _ [5, 6, 7, 8, 4, 9, 10, 11, 12, 13, 14, 15, 16, 17, 18, 19, 20, 21, 22, 23, 24, 25, 26, 43, 44, 45, 46, 47, 48, 49, 50] (by decide +kernel) (by decide +kernel)
set_option maxRecDepth 20000 in
theorem gX4_readOperands_X4_readRegister : GoodIn wsX4_readOperands (wsV RX4 67 RX4 yX4_readRegister wsX4_readRegister) := goodIn_app (goodIn_of _ (by decide +kernel)) ggX4_readOperands_X4_readRegister
set_option maxRecDepth 20000 in
theorem ggX4_readOperands_X4_readSign : GoodIn wsX4_readOperands wsX4_readSign := goodIn_r _ [30, 10, 11, 12, 43, 44, 45, 46, 47, 48] (by decide +kernel) (by decide +kernel)
set_option maxRecDepth 20000 in
theorem gX4_readOperands_X4_readSign : GoodIn wsX4_readOperands (wsV RX4 36 RX4 yX4_readSign wsX4_readSign) := goodIn_app (goodIn_of _ (by decide +kernel)) ggX4_readOperands_X4_readSign
set_option maxRecDepth 20000 in
theorem ggX4_readOperands_X4_readNumber : GoodIn wsX4_readOperands wsX4_readNumber := goodIn_r _ [34, 27, 28, 29, 4, 30, 10, 11, 12, 6, 7, 8, 9, 13, 14, 15, 16, 17, 18, 19, 20, 21, 22, 23, 24, 25, 26, 43, 44, 45, 46, 47, 48, 49, 50] (by decide +kernel) (by decide +kernel)
set_option maxRecDepth 20000 in
theorem gX4_readOperands_X4_readNumber : GoodIn wsX4_readOperands (wsV RX4 70 RX4 yX4_readNumber wsX4_readNumber) := goodIn_app (goodIn_of _ (by decide +kernel)) ggX4_readOperands_X4_readNumber
set_option maxRecDepth 20000 in
theorem ggX4_readOperands_X4_readPlace : GoodIn wsX4_readOperands wsX4_readPlace := goodIn_r _ [38, 39, 40, 41, 42, 6, 7, 8, 4, 9, 10, 11, 12, 13, 14, 15, 16, 17, 18, 19, 20, 21, 22, 23, 24, 25, 26, 43, 44, 45, 46, 47, 48, 49, 50] (by decide +kernel) (by decide +kernel)
set_option maxRecDepth 20000 in
theorem gX4_readOperands_X4_readPlace : GoodIn wsX4_readOperands (wsV RX4 73 RX4 yX4_readPlace wsX4_readPlace) := goodIn_app (goodIn_of _ (by decide +kernel)) ggX4_readOperands_X4_readPlace
theorem dX4_readOperands_0 : decode cX4_readOperands 0 = .ok (.iload_n 1, 1) := by decide +kernel
theorem dX4_readOperands_1 : decode cX4_readOperands 1 = .ok (.tableswitch 128 0 11 #[63, 128, 128, 128, 128, 128, 128, 92, 97, 97, 126, 126], 63) := by decide +kernel
theorem dX4_readOperands_64 : decode cX4_readOperands 64 = .ok (.aload_n 0, 1) := by decide +kernel
theorem dX4_readOperands_65 : decode cX4_readOperands 65 = .ok (.invokevirtual 67, 3) := by decide +kernel
theorem dX4_readOperands_68 : decode cX4_readOperands 68 = .ok (.ifCond .eq 23, 3) := by decide +kernel
theorem dX4_readOperands_71 : decode cX4_readOperands 71 = .ok (.aload_n 0, 1) := by decide +kernel
theorem dX4_readOperands_72 : decode cX4_readOperands 72 = .ok (.bipush 61, 2) := by decide +kernel
theorem dX4_readOperands_74 : decode cX4_readOperands 74 = .ok (.invokevirtual 36, 3) := by decide +kernel
theorem dX4_readOperands_77 : decode cX4_readOperands 77 = .ok (.ifCond .eq 14, 3) := by decide +kernel
theorem dX4_readOperands_80 : decode cX4_readOperands 80 = .ok (.aload_n 0, 1) := by decide +kernel
theorem dX4_readOperands_81 : decode cX4_readOperands 81 = .ok (.invokevirtual 70, 3) := by decide +kernel
theorem dX4_readOperands_84 : decode cX4_readOperands 84 = .ok (.ifCond .eq 7, 3) := by decide +kernel
theorem dX4_readOperands_87 : decode cX4_readOperands 87 = .ok (.iconst 1, 1) := by decide +kernel
theorem dX4_readOperands_88 : decode cX4_readOperands 88 = .ok (.goto 4, 3) := by decide +kernel
theorem dX4_readOperands_91 : decode cX4_readOperands 91 = .ok (.iconst 0, 1) := by decide +kernel
theorem dX4_readOperands_92 : decode cX4_readOperands 92 = .ok (.ireturn, 1) := by decide +kernel
theorem dX4_readOperands_93 : decode cX4_readOperands 93 = .ok (.aload_n 0, 1) := by decide +kernel
theorem dX4_readOperands_94 : decode cX4_readOperands 94 = .ok (.invokevirtual 73, 3) := by decide +kernel
theorem dX4_readOperands_97 : decode cX4_readOperands 97 = .ok (.ireturn, 1) := by decide +kernel
theorem dX4_readOperands_98 : decode cX4_readOperands 98 = .ok (.aload_n 0, 1) := by decide +kernel
theorem dX4_readOperands_99 : decode cX4_readOperands 99 = .ok (.invokevirtual 67, 3) := by decide +kernel
theorem dX4_readOperands_102 : decode cX4_readOperands 102 = .ok (.ifCond .eq 23, 3) := by decide +kernel
theorem dX4_readOperands_105 : decode cX4_readOperands 105 = .ok (.aload_n 0, 1) := by decide +kernel
theorem dX4_readOperands_106 : decode cX4_readOperands 106 = .ok (.bipush 62, 2) := by decide +kernel
theorem dX4_readOperands_108 : decode cX4_readOperands 108 = .ok (.invokevirtual 36, 3) := by decide +kernel
theorem dX4_readOperands_111 : decode cX4_readOperands 111 = .ok (.ifCond .eq 14, 3) := by decide +kernel
theorem dX4_readOperands_114 : decode cX4_readOperands 114 = .ok (.aload_n 0, 1) := by decide +kernel
theorem dX4_readOperands_115 : decode cX4_readOperands 115 = .ok (.invokevirtual 73, 3) := by decide +kernel
theorem dX4_readOperands_118 : decode cX4_readOperands 118 = .ok (.ifCond .eq 7, 3) := by decide +kernel
theorem dX4_readOperands_121 : decode cX4_readOperands 121 = .ok (.iconst 1, 1) := by decide +kernel
theorem dX4_readOperands_122 : decode cX4_readOperands 122 = .ok (.goto 4, 3) := by decide +kernel
theorem dX4_readOperands_125 : decode cX4_readOperands 125 = .ok (.iconst 0, 1) := by decide +kernel
theorem dX4_readOperands_126 : decode cX4_readOperands 126 = .ok (.ireturn, 1) := by decide +kernel
theorem dX4_readOperands_127 : decode cX4_readOperands 127 = .ok (.iconst 1, 1) := by decide +kernel
theorem dX4_readOperands_128 : decode cX4_readOperands 128 = .ok (.ireturn, 1) := by decide +kernel
theorem dX4_readOperands_129 : decode cX4_readOperands 129 = .ok (.aload_n 0, 1) := by decide +kernel
theorem dX4_readOperands_130 : decode cX4_readOperands 130 = .ok (.invokevirtual 67, 3) := by decide +kernel
theorem dX4_readOperands_133 : decode cX4_readOperands 133 = .ok (.ifCond .eq 14, 3) := by decide +kernel
theorem dX4_readOperands_136 : decode cX4_readOperands 136 = .ok (.aload_n 0, 1) := by decide +kernel
theorem dX4_readOperands_137 : decode cX4_readOperands 137 = .ok (.invokevirtual 67, 3) := by decide +kernel
theorem dX4_readOperands_140 : decode cX4_readOperands 140 = .ok (.ifCond .eq 7, 3) := by decide +kernel
theorem dX4_readOperands_143 : decode cX4_readOperands 143 = .ok (.iconst 1, 1) := by decide +kernel
theorem dX4_readOperands_144 : decode cX4_readOperands 144 = .ok (.goto 4, 3) := by decide +kernel
theorem dX4_readOperands_147 : decode cX4_readOperands 147 = .ok (.iconst 0, 1) := by decide +kernel
theorem dX4_readOperands_148 : decode cX4_readOperands 148 = .ok (.ireturn, 1) := by decide +kernel
theorem dX4_readSign_0 : decode cX4_readSign 0 = .ok (.aload_n 0, 1) := by decide +kernel
theorem dX4_readSign_1 : decode cX4_readSign 1 = .ok (.getfield 26, 3) := by decide +kernel
theorem dX4_readSign_4 : decode cX4_readSign 4 = .ok (.aload_n 0, 1) := by decide +kernel
theorem dX4_readSign_5 : decode cX4_readSign 5 = .ok (.getfield 22, 3) := by decide +kernel
theorem dX4_readSign_8 : decode cX4_readSign 8 = .ok (.if_icmp .ge 16, 3) := by decide +kernel
theorem dX4_readSign_11 : decode cX4_readSign 11 = .ok (.aload_n 0, 1) := by decide +kernel
theorem dX4_readSign_12 : decode cX4_readSign 12 = .ok (.getfield 11, 3) := by decide +kernel
theorem dX4_readSign_15 : decode cX4_readSign 15 = .ok (.aload_n 0, 1) := by decide +kernel
theorem dX4_readSign_16 : decode cX4_readSign 16 = .ok (.getfield 26, 3) := by decide +kernel
theorem dX4_readSign_19 : decode cX4_readSign 19 = .ok (.caload, 1) := by decide +kernel
theorem dX4_readSign_20 : decode cX4_readSign 20 = .ok (.iload_n 1, 1) := by decide +kernel
theorem dX4_readSign_21 : decode cX4_readSign 21 = .ok (.if_icmp .eq 5, 3) := by decide +kernel
theorem dX4_readSign_24 : decode cX4_readSign 24 = .ok (.iconst 0, 1) := by decide +kernel
theorem dX4_readSign_25 : decode cX4_readSign 25 = .ok (.ireturn, 1) := by decide +kernel
theorem dX4_readSign_26 : decode cX4_readSign 26 = .ok (.aload_n 0, 1) := by decide +kernel
theorem dX4_readSign_27 : decode cX4_readSign 27 = .ok (.dup, 1) := by decide +kernel
theorem dX4_readSign_28 : decode cX4_readSign 28 = .ok (.getfield 26, 3) := by decide +kernel
theorem dX4_readSign_31 : decode cX4_readSign 31 = .ok (.iconst 1, 1) := by decide +kernel
theorem dX4_readSign_32 : decode cX4_readSign 32 = .ok (.iadd, 1) := by decide +kernel
theorem dX4_readSign_33 : decode cX4_readSign 33 = .ok (.putfield 26, 3) := by decide +kernel
theorem dX4_readSign_36 : decode cX4_readSign 36 = .ok (.iconst 1, 1) := by decide +kernel
theorem dX4_readSign_37 : decode cX4_readSign 37 = .ok (.ireturn, 1) := by decide +kernel
set_option maxRecDepth 20000 in
theorem ggX4_isDigit_X6_isWithin : GoodIn wsX4_isDigit wsX6_isWithin := goodIn_r _ [6] (by decide +kernel) (by decide +kernel)
set_option maxRecDepth 20000 in
theorem gX4_isDigit_X6_isWithin_n76 : GoodIn wsX4_isDigit (wsX6_isWithin) := ggX4_isDigit_X6_isWithin
theorem dX4_isDigit_0 : decode cX4_isDigit 0 = .ok (.aload_n 0, 1) := by decide +kernel
theorem dX4_isDigit_1 : decode cX4_isDigit 1 = .ok (.getfield 26, 3) := by decide +kernel
theorem dX4_isDigit_4 : decode cX4_isDigit 4 = .ok (.aload_n 0, 1) := by decide +kernel
theorem dX4_isDigit_5 : decode cX4_isDigit 5 = .ok (.getfield 22, 3) := by decide +kernel
theorem dX4_isDigit_8 : decode cX4_isDigit 8 = .ok (.if_icmp .ge 27, 3) := by decide +kernel
theorem dX4_isDigit_11 : decode cX4_isDigit 11 = .ok (.aload_n 0, 1) := by decide +kernel
theorem dX4_isDigit_12 : decode cX4_isDigit 12 = .ok (.getfield 11, 3) := by decide +kernel
theorem dX4_isDigit_15 : decode cX4_isDigit 15 = .ok (.aload_n 0, 1) := by decide +kernel
theorem dX4_isDigit_16 : decode cX4_isDigit 16 = .ok (.getfield 26, 3) := by decide +kernel
theorem dX4_isDigit_19 : decode cX4_isDigit 19 = .ok (.caload, 1) := by decide +kernel
theorem dX4_isDigit_20 : decode cX4_isDigit 20 = .ok (.bipush 48, 2) := by decide +kernel
theorem dX4_isDigit_22 : decode cX4_isDigit 22 = .ok (.isub, 1) := by decide +kernel
theorem dX4_isDigit_23 : decode cX4_isDigit 23 = .ok (.iload_n 1, 1) := by decide +kernel
theorem dX4_isDigit_24 : decode cX4_isDigit 24 = .ok (.iload_n 2, 1) := by decide +kernel
theorem dX4_isDigit_25 : decode cX4_isDigit 25 = .ok (.invokestatic 76, 3) := by decide +kernel
theorem dX4_isDigit_28 : decode cX4_isDigit 28 = .ok (.ifCond .eq 7, 3) := by decide +kernel
theorem dX4_isDigit_31 : decode cX4_isDigit 31 = .ok (.iconst 1, 1) := by decide +kernel
theorem dX4_isDigit_32 : decode cX4_isDigit 32 = .ok (.goto 4, 3) := by decide +kernel
theorem dX4_isDigit_35 : decode cX4_isDigit 35 = .ok (.iconst 0, 1) := by decide +kernel
theorem dX4_isDigit_36 : decode cX4_isDigit 36 = .ok (.ireturn, 1) := by decide +kernel
theorem dX4_takeDigit_0 : decode cX4_takeDigit 0 = .ok (.aload_n 0, 1) := by decide +kernel
theorem dX4_takeDigit_1 : decode cX4_takeDigit 1 = .ok (.getfield 26, 3) := by decide +kernel
theorem dX4_takeDigit_4 : decode cX4_takeDigit 4 = .ok (.aload_n 0, 1) := by decide +kernel
theorem dX4_takeDigit_5 : decode cX4_takeDigit 5 = .ok (.getfield 22, 3) := by decide +kernel
theorem dX4_takeDigit_8 : decode cX4_takeDigit 8 = .ok (.if_icmp .lt 5, 3) := by decide +kernel
theorem dX4_takeDigit_11 : decode cX4_takeDigit 11 = .ok (.iconst 0, 1) := by decide +kernel
theorem dX4_takeDigit_12 : decode cX4_takeDigit 12 = .ok (.ireturn, 1) := by decide +kernel
theorem dX4_takeDigit_13 : decode cX4_takeDigit 13 = .ok (.aload_n 0, 1) := by decide +kernel
theorem dX4_takeDigit_14 : decode cX4_takeDigit 14 = .ok (.getfield 11, 3) := by decide +kernel
theorem dX4_takeDigit_17 : decode cX4_takeDigit 17 = .ok (.aload_n 0, 1) := by decide +kernel
theorem dX4_takeDigit_18 : decode cX4_takeDigit 18 = .ok (.getfield 26, 3) := by decide +kernel
theorem dX4_takeDigit_21 : decode cX4_takeDigit 21 = .ok (.caload, 1) := by decide +kernel
theorem dX4_takeDigit_22 : decode cX4_takeDigit 22 = .ok (.bipush 48, 2) := by decide +kernel
theorem dX4_takeDigit_24 : decode cX4_takeDigit 24 = .ok (.isub, 1) := by decide +kernel
theorem dX4_takeDigit_25 : decode cX4_takeDigit 25 = .ok (.istore_n 1, 1) := by decide +kernel
theorem dX4_takeDigit_26 : decode cX4_takeDigit 26 = .ok (.aload_n 0, 1) := by decide +kernel
theorem dX4_takeDigit_27 : decode cX4_takeDigit 27 = .ok (.dup, 1) := by decide +kernel
theorem dX4_takeDigit_28 : decode cX4_takeDigit 28 = .ok (.getfield 26, 3) := by decide +kernel
theorem dX4_takeDigit_31 : decode cX4_takeDigit 31 = .ok (.iconst 1, 1) := by decide +kernel
theorem dX4_takeDigit_32 : decode cX4_takeDigit 32 = .ok (.iadd, 1) := by decide +kernel
theorem dX4_takeDigit_33 : decode cX4_takeDigit 33 = .ok (.putfield 26, 3) := by decide +kernel
theorem dX4_takeDigit_36 : decode cX4_takeDigit 36 = .ok (.iload_n 1, 1) := by decide +kernel
theorem dX4_takeDigit_37 : decode cX4_takeDigit 37 = .ok (.ireturn, 1) := by decide +kernel
set_option maxRecDepth 20000 in
theorem ggX4_readRegister_X4_isDigit : GoodIn wsX4_readRegister wsX4_isDigit := goodIn_r _ [5, 6, 7, 8, 9, 10, 11, 23, 24, 25, 26, 27, 28] (by decide +kernel) (by decide +kernel)
set_option maxRecDepth 20000 in
theorem gX4_readRegister_X4_isDigit : GoodIn wsX4_readRegister (wsV RX4 80 RX4 yX4_isDigit wsX4_isDigit) := goodIn_app (goodIn_of _ (by decide +kernel)) ggX4_readRegister_X4_isDigit
set_option maxRecDepth 20000 in
theorem ggX4_readRegister_X4_takeDigit : GoodIn wsX4_readRegister wsX4_takeDigit := goodIn_r _ [15, 6, 7, 8, 23, 24, 25, 26, 27, 28] (by decide +kernel) (by decide +kernel)
set_option maxRecDepth 20000 in
theorem gX4_readRegister_X4_takeDigit : GoodIn wsX4_readRegister (wsV RX4 84 RX4 yX4_takeDigit wsX4_takeDigit) := goodIn_app (goodIn_of _ (by decide +kernel)) ggX4_readRegister_X4_takeDigit
set_option maxRecDepth 20000 in
theorem ggX4_readRegister_X4_keepOperand : GoodIn wsX4_readRegister wsX4_keepOperand := goodIn_r _ [19, 20, 21, 22, 23, 24, 25, 26, 27, 28, 29, 30] (by decide +kernel) (by decide +kernel)
set_option maxRecDepth 20000 in
theorem gX4_readRegister_X4_keepOperand : GoodIn wsX4_readRegister (wsV RX4 88 RX4 yX4_keepOperand wsX4_keepOperand) := goodIn_app (goodIn_of _ (by decide +kernel)) ggX4_readRegister_X4_keepOperand
theorem dX4_readRegister_0 : decode cX4_readRegister 0 = .ok (.aload_n 0, 1) := by decide +kernel
theorem dX4_readRegister_1 : decode cX4_readRegister 1 = .ok (.iconst 0, 1) := by decide +kernel
theorem dX4_readRegister_2 : decode cX4_readRegister 2 = .ok (.iconst 3, 1) := by decide +kernel
theorem dX4_readRegister_3 : decode cX4_readRegister 3 = .ok (.invokevirtual 80, 3) := by decide +kernel
theorem dX4_readRegister_6 : decode cX4_readRegister 6 = .ok (.ifCond .ne 5, 3) := by decide +kernel
theorem dX4_readRegister_9 : decode cX4_readRegister 9 = .ok (.iconst 0, 1) := by decide +kernel
theorem dX4_readRegister_10 : decode cX4_readRegister 10 = .ok (.ireturn, 1) := by decide +kernel
theorem dX4_readRegister_11 : decode cX4_readRegister 11 = .ok (.aload_n 0, 1) := by decide +kernel
theorem dX4_readRegister_12 : decode cX4_readRegister 12 = .ok (.aload_n 0, 1) := by decide +kernel
theorem dX4_readRegister_13 : decode cX4_readRegister 13 = .ok (.invokevirtual 84, 3) := by decide +kernel
theorem dX4_readRegister_16 : decode cX4_readRegister 16 = .ok (.invokevirtual 88, 3) := by decide +kernel
theorem dX4_readRegister_19 : decode cX4_readRegister 19 = .ok (.iconst 1, 1) := by decide +kernel
theorem dX4_readRegister_20 : decode cX4_readRegister 20 = .ok (.ireturn, 1) := by decide +kernel
set_option maxRecDepth 20000 in
theorem ggX4_readNumber_X4_readSign : GoodIn wsX4_readNumber wsX4_readSign := goodIn_r _ [5, 6, 7, 8, 27, 28, 29, 30, 31, 32] (by decide +kernel) (by decide +kernel)
set_option maxRecDepth 20000 in
theorem gX4_readNumber_X4_readSign : GoodIn wsX4_readNumber (wsV RX4 36 RX4 yX4_readSign wsX4_readSign) := goodIn_app (goodIn_of _ (by decide +kernel)) ggX4_readNumber_X4_readSign
set_option maxRecDepth 20000 in
theorem ggX4_readNumber_X4_isDigit : GoodIn wsX4_readNumber wsX4_isDigit := goodIn_r _ [12, 6, 7, 8, 13, 14, 15, 27, 28, 29, 30, 31, 32] (by decide +kernel) (by decide +kernel)
set_option maxRecDepth 20000 in
theorem gX4_readNumber_X4_isDigit : GoodIn wsX4_readNumber (wsV RX4 80 RX4 yX4_isDigit wsX4_isDigit) := goodIn_app (goodIn_of _ (by decide +kernel)) ggX4_readNumber_X4_isDigit
set_option maxRecDepth 20000 in
theorem ggX4_readNumber_X4_takeDigit : GoodIn wsX4_readNumber wsX4_takeDigit := goodIn_r _ [19, 6, 7, 8, 27, 28, 29, 30, 31, 32] (by decide +kernel) (by decide +kernel)
set_option maxRecDepth 20000 in
theorem gX4_readNumber_X4_takeDigit : GoodIn wsX4_readNumber (wsV RX4 84 RX4 yX4_takeDigit wsX4_takeDigit) := goodIn_app (goodIn_of _ (by decide +kernel)) ggX4_readNumber_X4_takeDigit
set_option maxRecDepth 20000 in
theorem ggX4_readNumber_X4_keepOperand : GoodIn wsX4_readNumber wsX4_keepOperand := goodIn_r _ [23, 24, 25, 26, 27, 28, 29, 30, 31, 32, 33, 34] (by decide +kernel) (by decide +kernel)
set_option maxRecDepth 20000 in
theorem gX4_readNumber_X4_keepOperand : GoodIn wsX4_readNumber (wsV RX4 88 RX4 yX4_keepOperand wsX4_keepOperand) := goodIn_app (goodIn_of _ (by decide +kernel)) ggX4_readNumber_X4_keepOperand
theorem dX4_readNumber_0 : decode cX4_readNumber 0 = .ok (.aload_n 0, 1) := by decide +kernel
theorem dX4_readNumber_1 : decode cX4_readNumber 1 = .ok (.bipush 45, 2) := by decide +kernel
theorem dX4_readNumber_3 : decode cX4_readNumber 3 = .ok (.invokevirtual 36, 3) := by decide +kernel
theorem dX4_readNumber_6 : decode cX4_readNumber 6 = .ok (.istore_n 1, 1) := by decide +kernel
theorem dX4_readNumber_7 : decode cX4_readNumber 7 = .ok (.aload_n 0, 1) := by decide +kernel
theorem dX4_readNumber_8 : decode cX4_readNumber 8 = .ok (.iload_n 1, 1) := by decide +kernel
theorem dX4_readNumber_9 : decode cX4_readNumber 9 = .ok (.ifCond .eq 7, 3) := by decide +kernel
theorem dX4_readNumber_12 : decode cX4_readNumber 12 = .ok (.iconst 1, 1) := by decide +kernel
theorem dX4_readNumber_13 : decode cX4_readNumber 13 = .ok (.goto 4, 3) := by decide +kernel
theorem dX4_readNumber_16 : decode cX4_readNumber 16 = .ok (.iconst 0, 1) := by decide +kernel
theorem dX4_readNumber_17 : decode cX4_readNumber 17 = .ok (.bipush 9, 2) := by decide +kernel
theorem dX4_readNumber_19 : decode cX4_readNumber 19 = .ok (.invokevirtual 80, 3) := by decide +kernel
theorem dX4_readNumber_22 : decode cX4_readNumber 22 = .ok (.ifCond .ne 5, 3) := by decide +kernel
theorem dX4_readNumber_25 : decode cX4_readNumber 25 = .ok (.iconst 0, 1) := by decide +kernel
theorem dX4_readNumber_26 : decode cX4_readNumber 26 = .ok (.ireturn, 1) := by decide +kernel
theorem dX4_readNumber_27 : decode cX4_readNumber 27 = .ok (.aload_n 0, 1) := by decide +kernel
theorem dX4_readNumber_28 : decode cX4_readNumber 28 = .ok (.invokevirtual 84, 3) := by decide +kernel
theorem dX4_readNumber_31 : decode cX4_readNumber 31 = .ok (.istore_n 2, 1) := by decide +kernel
theorem dX4_readNumber_32 : decode cX4_readNumber 32 = .ok (.iload_n 2, 1) := by decide +kernel
theorem dX4_readNumber_33 : decode cX4_readNumber 33 = .ok (.ifCond .eq 23, 3) := by decide +kernel
theorem dX4_readNumber_36 : decode cX4_readNumber 36 = .ok (.aload_n 0, 1) := by decide +kernel
theorem dX4_readNumber_37 : decode cX4_readNumber 37 = .ok (.iconst 0, 1) := by decide +kernel
theorem dX4_readNumber_38 : decode cX4_readNumber 38 = .ok (.bipush 9, 2) := by decide +kernel
theorem dX4_readNumber_40 : decode cX4_readNumber 40 = .ok (.invokevirtual 80, 3) := by decide +kernel
theorem dX4_readNumber_43 : decode cX4_readNumber 43 = .ok (.ifCond .eq 13, 3) := by decide +kernel
theorem dX4_readNumber_46 : decode cX4_readNumber 46 = .ok (.iload_n 2, 1) := by decide +kernel
theorem dX4_readNumber_47 : decode cX4_readNumber 47 = .ok (.bipush 10, 2) := by decide +kernel
theorem dX4_readNumber_49 : decode cX4_readNumber 49 = .ok (.imul, 1) := by decide +kernel
theorem dX4_readNumber_50 : decode cX4_readNumber 50 = .ok (.aload_n 0, 1) := by decide +kernel
theorem dX4_readNumber_51 : decode cX4_readNumber 51 = .ok (.invokevirtual 84, 3) := by decide +kernel
theorem dX4_readNumber_54 : decode cX4_readNumber 54 = .ok (.iadd, 1) := by decide +kernel
theorem dX4_readNumber_55 : decode cX4_readNumber 55 = .ok (.istore_n 2, 1) := by decide +kernel
theorem dX4_readNumber_56 : decode cX4_readNumber 56 = .ok (.aload_n 0, 1) := by decide +kernel
theorem dX4_readNumber_57 : decode cX4_readNumber 57 = .ok (.iload_n 1, 1) := by decide +kernel
theorem dX4_readNumber_58 : decode cX4_readNumber 58 = .ok (.ifCond .eq 8, 3) := by decide +kernel
theorem dX4_readNumber_61 : decode cX4_readNumber 61 = .ok (.iload_n 2, 1) := by decide +kernel
theorem dX4_readNumber_62 : decode cX4_readNumber 62 = .ok (.ineg, 1) := by decide +kernel
theorem dX4_readNumber_63 : decode cX4_readNumber 63 = .ok (.goto 4, 3) := by decide +kernel
theorem dX4_readNumber_66 : decode cX4_readNumber 66 = .ok (.iload_n 2, 1) := by decide +kernel
theorem dX4_readNumber_67 : decode cX4_readNumber 67 = .ok (.invokevirtual 88, 3) := by decide +kernel
theorem dX4_readNumber_70 : decode cX4_readNumber 70 = .ok (.iconst 1, 1) := by decide +kernel
theorem dX4_readNumber_71 : decode cX4_readNumber 71 = .ok (.ireturn, 1) := by decide +kernel
set_option maxRecDepth 20000 in
theorem ggX4_readPlace_X4_isDigit : GoodIn wsX4_readPlace wsX4_isDigit := goodIn_r _ [9, 10, 11, 12, 13, 14, 15, 27, 28, 29, 30, 31, 32] (by decide +kernel) (by decide +kernel)
set_option maxRecDepth 20000 in
theorem gX4_readPlace_X4_isDigit : GoodIn wsX4_readPlace (wsV RX4 80 RX4 yX4_isDigit wsX4_isDigit) := goodIn_app (goodIn_of _ (by decide +kernel)) ggX4_readPlace_X4_isDigit
set_option maxRecDepth 20000 in
theorem ggX4_readPlace_X4_takeDigit : GoodIn wsX4_readPlace wsX4_takeDigit := goodIn_r _ [19, 10, 11, 12, 27, 28, 29, 30, 31, 32] (by decide +kernel) (by decide +kernel)
set_option maxRecDepth 20000 in
theorem gX4_readPlace_X4_takeDigit : GoodIn wsX4_readPlace (wsV RX4 84 RX4 yX4_takeDigit wsX4_takeDigit) := goodIn_app (goodIn_of _ (by decide +kernel)) ggX4_readPlace_X4_takeDigit
set_option maxRecDepth 20000 in
theorem ggX4_readPlace_X4_keepOperand : GoodIn wsX4_readPlace wsX4_keepOperand := goodIn_r _ [23, 24, 25, 26, 27, 28, 29, 30, 31, 32, 33, 34] (by decide +kernel) (by decide +kernel)
set_option maxRecDepth 20000 in
theorem gX4_readPlace_X4_keepOperand : GoodIn wsX4_readPlace (wsV RX4 88 RX4 yX4_keepOperand wsX4_keepOperand) := goodIn_app (goodIn_of _ (by decide +kernel)) ggX4_readPlace_X4_keepOperand
theorem dX4_readPlace_0 : decode cX4_readPlace 0 = .ok (.aload_n 0, 1) := by decide +kernel
theorem dX4_readPlace_1 : decode cX4_readPlace 1 = .ok (.iconst 0, 1) := by decide +kernel
theorem dX4_readPlace_2 : decode cX4_readPlace 2 = .ok (.bipush 9, 2) := by decide +kernel
theorem dX4_readPlace_4 : decode cX4_readPlace 4 = .ok (.invokevirtual 80, 3) := by decide +kernel
theorem dX4_readPlace_7 : decode cX4_readPlace 7 = .ok (.ifCond .ne 5, 3) := by decide +kernel
theorem dX4_readPlace_10 : decode cX4_readPlace 10 = .ok (.iconst 0, 1) := by decide +kernel
theorem dX4_readPlace_11 : decode cX4_readPlace 11 = .ok (.ireturn, 1) := by decide +kernel
theorem dX4_readPlace_12 : decode cX4_readPlace 12 = .ok (.aload_n 0, 1) := by decide +kernel
theorem dX4_readPlace_13 : decode cX4_readPlace 13 = .ok (.invokevirtual 84, 3) := by decide +kernel
theorem dX4_readPlace_16 : decode cX4_readPlace 16 = .ok (.istore_n 1, 1) := by decide +kernel
theorem dX4_readPlace_17 : decode cX4_readPlace 17 = .ok (.bipush 9, 2) := by decide +kernel
theorem dX4_readPlace_19 : decode cX4_readPlace 19 = .ok (.bipush 47, 2) := by decide +kernel
theorem dX4_readPlace_21 : decode cX4_readPlace 21 = .ok (.iload_n 1, 1) := by decide +kernel
theorem dX4_readPlace_22 : decode cX4_readPlace 22 = .ok (.bipush 10, 2) := by decide +kernel
theorem dX4_readPlace_24 : decode cX4_readPlace 24 = .ok (.imul, 1) := by decide +kernel
theorem dX4_readPlace_25 : decode cX4_readPlace 25 = .ok (.isub, 1) := by decide +kernel
theorem dX4_readPlace_26 : decode cX4_readPlace 26 = .ok (.invokestatic 91, 3) := by decide +kernel
theorem dX4_readPlace_29 : decode cX4_readPlace 29 = .ok (.istore_n 2, 1) := by decide +kernel
theorem dX4_readPlace_30 : decode cX4_readPlace 30 = .ok (.iload_n 1, 1) := by decide +kernel
theorem dX4_readPlace_31 : decode cX4_readPlace 31 = .ok (.ifCond .eq 22, 3) := by decide +kernel
theorem dX4_readPlace_34 : decode cX4_readPlace 34 = .ok (.aload_n 0, 1) := by decide +kernel
theorem dX4_readPlace_35 : decode cX4_readPlace 35 = .ok (.iconst 0, 1) := by decide +kernel
theorem dX4_readPlace_36 : decode cX4_readPlace 36 = .ok (.iload_n 2, 1) := by decide +kernel
theorem dX4_readPlace_37 : decode cX4_readPlace 37 = .ok (.invokevirtual 80, 3) := by decide +kernel
theorem dX4_readPlace_40 : decode cX4_readPlace 40 = .ok (.ifCond .eq 13, 3) := by decide +kernel
theorem dX4_readPlace_43 : decode cX4_readPlace 43 = .ok (.iload_n 1, 1) := by decide +kernel
theorem dX4_readPlace_44 : decode cX4_readPlace 44 = .ok (.bipush 10, 2) := by decide +kernel
theorem dX4_readPlace_46 : decode cX4_readPlace 46 = .ok (.imul, 1) := by decide +kernel
theorem dX4_readPlace_47 : decode cX4_readPlace 47 = .ok (.aload_n 0, 1) := by decide +kernel
theorem dX4_readPlace_48 : decode cX4_readPlace 48 = .ok (.invokevirtual 84, 3) := by decide +kernel
theorem dX4_readPlace_51 : decode cX4_readPlace 51 = .ok (.iadd, 1) := by decide +kernel
theorem dX4_readPlace_52 : decode cX4_readPlace 52 = .ok (.istore_n 1, 1) := by decide +kernel
theorem dX4_readPlace_53 : decode cX4_readPlace 53 = .ok (.aload_n 0, 1) := by decide +kernel
theorem dX4_readPlace_54 : decode cX4_readPlace 54 = .ok (.iload_n 1, 1) := by decide +kernel
theorem dX4_readPlace_55 : decode cX4_readPlace 55 = .ok (.invokevirtual 88, 3) := by decide +kernel
theorem dX4_readPlace_58 : decode cX4_readPlace 58 = .ok (.iconst 1, 1) := by decide +kernel
theorem dX4_readPlace_59 : decode cX4_readPlace 59 = .ok (.ireturn, 1) := by decide +kernel
theorem dX4_keepOperand_0 : decode cX4_keepOperand 0 = .ok (.aload_n 0, 1) := by decide +kernel
theorem dX4_keepOperand_1 : decode cX4_keepOperand 1 = .ok (.getfield 64, 3) := by decide +kernel
theorem dX4_keepOperand_4 : decode cX4_keepOperand 4 = .ok (.iconst 2, 1) := by decide +kernel
theorem dX4_keepOperand_5 : decode cX4_keepOperand 5 = .ok (.if_icmp .ge 33, 3) := by decide +kernel
theorem dX4_keepOperand_8 : decode cX4_keepOperand 8 = .ok (.aload_n 0, 1) := by decide +kernel
theorem dX4_keepOperand_9 : decode cX4_keepOperand 9 = .ok (.getfield 18, 3) := by decide +kernel
theorem dX4_keepOperand_12 : decode cX4_keepOperand 12 = .ok (.getfield 61, 3) := by decide +kernel
theorem dX4_keepOperand_15 : decode cX4_keepOperand 15 = .ok (.aload_n 0, 1) := by decide +kernel
theorem dX4_keepOperand_16 : decode cX4_keepOperand 16 = .ok (.getfield 29, 3) := by decide +kernel
theorem dX4_keepOperand_19 : decode cX4_keepOperand 19 = .ok (.iconst 2, 1) := by decide +kernel
theorem dX4_keepOperand_20 : decode cX4_keepOperand 20 = .ok (.imul, 1) := by decide +kernel
theorem dX4_keepOperand_21 : decode cX4_keepOperand 21 = .ok (.aload_n 0, 1) := by decide +kernel
theorem dX4_keepOperand_22 : decode cX4_keepOperand 22 = .ok (.getfield 64, 3) := by decide +kernel
theorem dX4_keepOperand_25 : decode cX4_keepOperand 25 = .ok (.iadd, 1) := by decide +kernel
theorem dX4_keepOperand_26 : decode cX4_keepOperand 26 = .ok (.iload_n 1, 1) := by decide +kernel
theorem dX4_keepOperand_27 : decode cX4_keepOperand 27 = .ok (.iastore, 1) := by decide +kernel
theorem dX4_keepOperand_28 : decode cX4_keepOperand 28 = .ok (.aload_n 0, 1) := by decide +kernel
theorem dX4_keepOperand_29 : decode cX4_keepOperand 29 = .ok (.dup, 1) := by decide +kernel
theorem dX4_keepOperand_30 : decode cX4_keepOperand 30 = .ok (.getfield 64, 3) := by decide +kernel
theorem dX4_keepOperand_33 : decode cX4_keepOperand 33 = .ok (.iconst 1, 1) := by decide +kernel
theorem dX4_keepOperand_34 : decode cX4_keepOperand 34 = .ok (.iadd, 1) := by decide +kernel
theorem dX4_keepOperand_35 : decode cX4_keepOperand 35 = .ok (.putfield 64, 3) := by decide +kernel
theorem dX4_keepOperand_38 : decode cX4_keepOperand 38 = .ok (.return_, 1) := by decide +kernel
theorem dX5_init_0 : decode cX5_init 0 = .ok (.aload_n 0, 1) := by decide +kernel
theorem dX5_init_1 : decode cX5_init 1 = .ok (.invokespecial 3, 3) := by decide +kernel
theorem dX5_init_4 : decode cX5_init 4 = .ok (.aload_n 0, 1) := by decide +kernel
theorem dX5_init_5 : decode cX5_init 5 = .ok (.bipush 48, 2) := by decide +kernel
theorem dX5_init_7 : decode cX5_init 7 = .ok (.newarray .int, 2) := by decide +kernel
theorem dX5_init_9 : decode cX5_init 9 = .ok (.putfield 11, 3) := by decide +kernel
theorem dX5_init_12 : decode cX5_init 12 = .ok (.return_, 1) := by decide +kernel
theorem dX5_note_0 : decode cX5_note 0 = .ok (.aload_n 0, 1) := by decide +kernel
theorem dX5_note_1 : decode cX5_note 1 = .ok (.getfield 15, 3) := by decide +kernel
theorem dX5_note_4 : decode cX5_note 4 = .ok (.iconst 3, 1) := by decide +kernel
theorem dX5_note_5 : decode cX5_note 5 = .ok (.imul, 1) := by decide +kernel
theorem dX5_note_6 : decode cX5_note 6 = .ok (.istore 4, 2) := by decide +kernel
theorem dX5_note_8 : decode cX5_note 8 = .ok (.aload_n 0, 1) := by decide +kernel
theorem dX5_note_9 : decode cX5_note 9 = .ok (.getfield 11, 3) := by decide +kernel
theorem dX5_note_12 : decode cX5_note 12 = .ok (.iload 4, 2) := by decide +kernel
theorem dX5_note_14 : decode cX5_note 14 = .ok (.iload_n 1, 1) := by decide +kernel
theorem dX5_note_15 : decode cX5_note 15 = .ok (.iastore, 1) := by decide +kernel
theorem dX5_note_16 : decode cX5_note 16 = .ok (.aload_n 0, 1) := by decide +kernel
theorem dX5_note_17 : decode cX5_note 17 = .ok (.getfield 11, 3) := by decide +kernel
theorem dX5_note_20 : decode cX5_note 20 = .ok (.iload 4, 2) := by decide +kernel
theorem dX5_note_22 : decode cX5_note 22 = .ok (.iconst 1, 1) := by decide +kernel
theorem dX5_note_23 : decode cX5_note 23 = .ok (.iadd, 1) := by decide +kernel
theorem dX5_note_24 : decode cX5_note 24 = .ok (.iload_n 2, 1) := by decide +kernel
theorem dX5_note_25 : decode cX5_note 25 = .ok (.iastore, 1) := by decide +kernel
theorem dX5_note_26 : decode cX5_note 26 = .ok (.aload_n 0, 1) := by decide +kernel
theorem dX5_note_27 : decode cX5_note 27 = .ok (.getfield 11, 3) := by decide +kernel
theorem dX5_note_30 : decode cX5_note 30 = .ok (.iload 4, 2) := by decide +kernel
theorem dX5_note_32 : decode cX5_note 32 = .ok (.iconst 2, 1) := by decide +kernel
theorem dX5_note_33 : decode cX5_note 33 = .ok (.iadd, 1) := by decide +kernel
theorem dX5_note_34 : decode cX5_note 34 = .ok (.iload_n 3, 1) := by decide +kernel
theorem dX5_note_35 : decode cX5_note 35 = .ok (.iastore, 1) := by decide +kernel
theorem dX5_note_36 : decode cX5_note 36 = .ok (.aload_n 0, 1) := by decide +kernel
theorem dX5_note_37 : decode cX5_note 37 = .ok (.aload_n 0, 1) := by decide +kernel
theorem dX5_note_38 : decode cX5_note 38 = .ok (.getfield 15, 3) := by decide +kernel
theorem dX5_note_41 : decode cX5_note 41 = .ok (.iconst 1, 1) := by decide +kernel
theorem dX5_note_42 : decode cX5_note 42 = .ok (.iadd, 1) := by decide +kernel
theorem dX5_note_43 : decode cX5_note 43 = .ok (.bipush 16, 2) := by decide +kernel
theorem dX5_note_45 : decode cX5_note 45 = .ok (.irem, 1) := by decide +kernel
theorem dX5_note_46 : decode cX5_note 46 = .ok (.putfield 15, 3) := by decide +kernel
theorem dX5_note_49 : decode cX5_note 49 = .ok (.aload_n 0, 1) := by decide +kernel
theorem dX5_note_50 : decode cX5_note 50 = .ok (.aload_n 0, 1) := by decide +kernel
theorem dX5_note_51 : decode cX5_note 51 = .ok (.getfield 19, 3) := by decide +kernel
theorem dX5_note_54 : decode cX5_note 54 = .ok (.iconst 1, 1) := by decide +kernel
theorem dX5_note_55 : decode cX5_note 55 = .ok (.iadd, 1) := by decide +kernel
theorem dX5_note_56 : decode cX5_note 56 = .ok (.bipush 16, 2) := by decide +kernel
theorem dX5_note_58 : decode cX5_note 58 = .ok (.invokestatic 22, 3) := by decide +kernel
theorem dX5_note_61 : decode cX5_note 61 = .ok (.putfield 19, 3) := by decide +kernel
theorem dX5_note_64 : decode cX5_note 64 = .ok (.return_, 1) := by decide +kernel
theorem dX5_lookUp_0 : decode cX5_lookUp 0 = .ok (.iload_n 1, 1) := by decide +kernel
theorem dX5_lookUp_1 : decode cX5_lookUp 1 = .ok (.aload_n 0, 1) := by decide +kernel
theorem dX5_lookUp_2 : decode cX5_lookUp 2 = .ok (.getfield 19, 3) := by decide +kernel
theorem dX5_lookUp_5 : decode cX5_lookUp 5 = .ok (.if_icmp .lt 6, 3) := by decide +kernel
theorem dX5_lookUp_8 : decode cX5_lookUp 8 = .ok (.ldc 28, 2) := by decide +kernel
theorem dX5_lookUp_10 : decode cX5_lookUp 10 = .ok (.ireturn, 1) := by decide +kernel
theorem dX5_lookUp_11 : decode cX5_lookUp 11 = .ok (.aload_n 0, 1) := by decide +kernel
theorem dX5_lookUp_12 : decode cX5_lookUp 12 = .ok (.getfield 15, 3) := by decide +kernel
theorem dX5_lookUp_15 : decode cX5_lookUp 15 = .ok (.bipush 16, 2) := by decide +kernel
theorem dX5_lookUp_17 : decode cX5_lookUp 17 = .ok (.iadd, 1) := by decide +kernel
theorem dX5_lookUp_18 : decode cX5_lookUp 18 = .ok (.iconst 1, 1) := by decide +kernel
theorem dX5_lookUp_19 : decode cX5_lookUp 19 = .ok (.isub, 1) := by decide +kernel
theorem dX5_lookUp_20 : decode cX5_lookUp 20 = .ok (.iload_n 1, 1) := by decide +kernel
theorem dX5_lookUp_21 : decode cX5_lookUp 21 = .ok (.isub, 1) := by decide +kernel
theorem dX5_lookUp_22 : decode cX5_lookUp 22 = .ok (.bipush 16, 2) := by decide +kernel
theorem dX5_lookUp_24 : decode cX5_lookUp 24 = .ok (.irem, 1) := by decide +kernel
theorem dX5_lookUp_25 : decode cX5_lookUp 25 = .ok (.istore_n 3, 1) := by decide +kernel
theorem dX5_lookUp_26 : decode cX5_lookUp 26 = .ok (.aload_n 0, 1) := by decide +kernel
theorem dX5_lookUp_27 : decode cX5_lookUp 27 = .ok (.getfield 11, 3) := by decide +kernel
theorem dX5_lookUp_30 : decode cX5_lookUp 30 = .ok (.iload_n 3, 1) := by decide +kernel
theorem dX5_lookUp_31 : decode cX5_lookUp 31 = .ok (.iconst 3, 1) := by decide +kernel
theorem dX5_lookUp_32 : decode cX5_lookUp 32 = .ok (.imul, 1) := by decide +kernel
theorem dX5_lookUp_33 : decode cX5_lookUp 33 = .ok (.iload_n 2, 1) := by decide +kernel
theorem dX5_lookUp_34 : decode cX5_lookUp 34 = .ok (.iadd, 1) := by decide +kernel
theorem dX5_lookUp_35 : decode cX5_lookUp 35 = .ok (.iaload, 1) := by decide +kernel
theorem dX5_lookUp_36 : decode cX5_lookUp 36 = .ok (.ireturn, 1) := by decide +kernel
theorem dX5_copyFrom_0 : decode cX5_copyFrom 0 = .ok (.aload_n 1, 1) := by decide +kernel
theorem dX5_copyFrom_1 : decode cX5_copyFrom 1 = .ok (.getfield 11, 3) := by decide +kernel
theorem dX5_copyFrom_4 : decode cX5_copyFrom 4 = .ok (.iconst 0, 1) := by decide +kernel
theorem dX5_copyFrom_5 : decode cX5_copyFrom 5 = .ok (.aload_n 0, 1) := by decide +kernel
theorem dX5_copyFrom_6 : decode cX5_copyFrom 6 = .ok (.getfield 11, 3) := by decide +kernel
theorem dX5_copyFrom_9 : decode cX5_copyFrom 9 = .ok (.iconst 0, 1) := by decide +kernel
theorem dX5_copyFrom_10 : decode cX5_copyFrom 10 = .ok (.bipush 48, 2) := by decide +kernel
theorem dX5_copyFrom_12 : decode cX5_copyFrom 12 = .ok (.invokestatic 29, 3) := by decide +kernel
theorem dX5_copyFrom_15 : decode cX5_copyFrom 15 = .ok (.aload_n 0, 1) := by decide +kernel
theorem dX5_copyFrom_16 : decode cX5_copyFrom 16 = .ok (.aload_n 1, 1) := by decide +kernel
theorem dX5_copyFrom_17 : decode cX5_copyFrom 17 = .ok (.getfield 15, 3) := by decide +kernel
theorem dX5_copyFrom_20 : decode cX5_copyFrom 20 = .ok (.putfield 15, 3) := by decide +kernel
theorem dX5_copyFrom_23 : decode cX5_copyFrom 23 = .ok (.aload_n 0, 1) := by decide +kernel
theorem dX5_copyFrom_24 : decode cX5_copyFrom 24 = .ok (.aload_n 1, 1) := by decide +kernel
theorem dX5_copyFrom_25 : decode cX5_copyFrom 25 = .ok (.getfield 19, 3) := by decide +kernel
theorem dX5_copyFrom_28 : decode cX5_copyFrom 28 = .ok (.putfield 19, 3) := by decide +kernel
theorem dX5_copyFrom_31 : decode cX5_copyFrom 31 = .ok (.return_, 1) := by decide +kernel
