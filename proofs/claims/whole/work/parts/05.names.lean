set_option maxRecDepth 20000 in
theorem ggX4_findFault_X4_readInstruction : GoodIn wsX4_findFault wsX4_readInstruction := goodIn_r _ [9, 1, 3, 2, 10, 11, 12, 13, 14, 15, 16, 17, 18, 19, 20, 21, 22, 23, 24, 25, 26, 27, 28, 29, 30, 31, 32, 33, 34, 35, 36, 37, 38, 39, 40, 41, 42, 43, 44, 45, 46, 47, 48, 49, 50, 51, 52, 53, 54, 55, 56, 57, 58, 59, 60, 61, 62, 63, 64, 65, 66, 67, 68, 69, 70, 71, 72, 73, 74, 75, 76, 77, 78, 79, 80, 81, 82, 83, 84, 85, 86, 87, 88, 89, 90, 91, 92, 93, 94, 95, 96, 97, 98, 99, 100, 101, 102, 8, 103, 104, 4, 105, 106, 107, 108, 109, 110, 111, 112, 113, 114, 115, 116, 117, 118, 119, 120, 121, 122, 123, 124, 125, 126, 127, 128, 129, 130, 131, 132, 133, 134, 135, 136, 137, 138, 139, 140, 141, 142, 143, 144, 145, 146, 147, 148, 149] (by decide +kernel) (by decide +kernel)
set_option maxRecDepth 20000 in
theorem gX4_findFault_X4_readInstruction : GoodIn wsX4_findFault (wsV RX4 32 RX4 yX4_readInstruction wsX4_readInstruction) := goodIn_app (goodIn_of _ (by decide +kernel)) ggX4_findFault_X4_readInstruction
set_option maxRecDepth 20000 in
theorem ggX4_findFault_X4_readSign : GoodIn wsX4_findFault wsX4_readSign := goodIn_r _ [132, 1, 3, 10, 142, 143, 144, 145, 146, 147] (by decide +kernel) (by decide +kernel)
set_option maxRecDepth 20000 in
theorem gX4_findFault_X4_readSign : GoodIn wsX4_findFault (wsV RX4 36 RX4 yX4_readSign wsX4_readSign) := goodIn_app (goodIn_of _ (by decide +kernel)) ggX4_findFault_X4_readSign
theorem dX4_findFault_0 : decode cX4_findFault 0 = .ok (.aload_n 0, 1) := by decide +kernel
theorem dX4_findFault_1 : decode cX4_findFault 1 = .ok (.iconst 0, 1) := by decide +kernel
theorem dX4_findFault_2 : decode cX4_findFault 2 = .ok (.putfield 26, 3) := by decide +kernel
theorem dX4_findFault_5 : decode cX4_findFault 5 = .ok (.aload_n 0, 1) := by decide +kernel
theorem dX4_findFault_6 : decode cX4_findFault 6 = .ok (.iconst 0, 1) := by decide +kernel
theorem dX4_findFault_7 : decode cX4_findFault 7 = .ok (.putfield 29, 3) := by decide +kernel
theorem dX4_findFault_10 : decode cX4_findFault 10 = .ok (.aload_n 0, 1) := by decide +kernel
theorem dX4_findFault_11 : decode cX4_findFault 11 = .ok (.invokevirtual 32, 3) := by decide +kernel
theorem dX4_findFault_14 : decode cX4_findFault 14 = .ok (.istore_n 1, 1) := by decide +kernel
theorem dX4_findFault_15 : decode cX4_findFault 15 = .ok (.iconst 0, 1) := by decide +kernel
theorem dX4_findFault_16 : decode cX4_findFault 16 = .ok (.istore_n 2, 1) := by decide +kernel
theorem dX4_findFault_17 : decode cX4_findFault 17 = .ok (.iload_n 2, 1) := by decide +kernel
theorem dX4_findFault_18 : decode cX4_findFault 18 = .ok (.bipush 100, 2) := by decide +kernel
theorem dX4_findFault_20 : decode cX4_findFault 20 = .ok (.if_icmp .ge 46, 3) := by decide +kernel
theorem dX4_findFault_23 : decode cX4_findFault 23 = .ok (.iload_n 1, 1) := by decide +kernel
theorem dX4_findFault_24 : decode cX4_findFault 24 = .ok (.ifCond .eq 42, 3) := by decide +kernel
theorem dX4_findFault_27 : decode cX4_findFault 27 = .ok (.aload_n 0, 1) := by decide +kernel
theorem dX4_findFault_28 : decode cX4_findFault 28 = .ok (.getfield 26, 3) := by decide +kernel
theorem dX4_findFault_31 : decode cX4_findFault 31 = .ok (.aload_n 0, 1) := by decide +kernel
theorem dX4_findFault_32 : decode cX4_findFault 32 = .ok (.getfield 22, 3) := by decide +kernel
theorem dX4_findFault_35 : decode cX4_findFault 35 = .ok (.if_icmp .ge 31, 3) := by decide +kernel
theorem dX4_findFault_38 : decode cX4_findFault 38 = .ok (.aload_n 0, 1) := by decide +kernel
theorem dX4_findFault_39 : decode cX4_findFault 39 = .ok (.bipush 59, 2) := by decide +kernel
theorem dX4_findFault_41 : decode cX4_findFault 41 = .ok (.invokevirtual 36, 3) := by decide +kernel
theorem dX4_findFault_44 : decode cX4_findFault 44 = .ok (.ifCond .eq 14, 3) := by decide +kernel
theorem dX4_findFault_47 : decode cX4_findFault 47 = .ok (.aload_n 0, 1) := by decide +kernel
theorem dX4_findFault_48 : decode cX4_findFault 48 = .ok (.invokevirtual 32, 3) := by decide +kernel
theorem dX4_findFault_51 : decode cX4_findFault 51 = .ok (.ifCond .eq 7, 3) := by decide +kernel
theorem dX4_findFault_54 : decode cX4_findFault 54 = .ok (.iconst 1, 1) := by decide +kernel
theorem dX4_findFault_55 : decode cX4_findFault 55 = .ok (.goto 4, 3) := by decide +kernel
theorem dX4_findFault_58 : decode cX4_findFault 58 = .ok (.iconst 0, 1) := by decide +kernel
theorem dX4_findFault_59 : decode cX4_findFault 59 = .ok (.istore_n 1, 1) := by decide +kernel
theorem dX4_findFault_60 : decode cX4_findFault 60 = .ok (.iinc 2 1, 3) := by decide +kernel
theorem dX4_findFault_63 : decode cX4_findFault 63 = .ok (.goto (-46), 3) := by decide +kernel
theorem dX4_findFault_66 : decode cX4_findFault 66 = .ok (.iload_n 1, 1) := by decide +kernel
theorem dX4_findFault_67 : decode cX4_findFault 67 = .ok (.ifCond .eq 8, 3) := by decide +kernel
theorem dX4_findFault_70 : decode cX4_findFault 70 = .ok (.ldc 40, 2) := by decide +kernel
theorem dX4_findFault_72 : decode cX4_findFault 72 = .ok (.goto 7, 3) := by decide +kernel
theorem dX4_findFault_75 : decode cX4_findFault 75 = .ok (.aload_n 0, 1) := by decide +kernel
theorem dX4_findFault_76 : decode cX4_findFault 76 = .ok (.getfield 26, 3) := by decide +kernel
theorem dX4_findFault_79 : decode cX4_findFault 79 = .ok (.ireturn, 1) := by decide +kernel
set_option maxRecDepth 20000 in
theorem ggX4_readInstruction_J0_indexOf_0f7a4 : GoodIn wsX4_readInstruction wsJ0_indexOf_0f7a4 := goodIn_r _ [9, 10, 11, 12, 8, 13, 14, 15, 16, 17, 18, 19, 20, 21, 22, 23, 24, 25, 26, 27, 28, 29, 30, 31, 32, 33, 34, 35, 36, 37, 38, 39, 40, 41, 42, 43, 44, 45, 46, 47, 48, 49, 50, 51, 52, 53, 54, 55, 56, 57, 58, 59, 60, 61, 62, 63, 64, 65, 66, 67, 68, 69, 70, 71, 72, 73, 74, 75, 76, 77, 78, 79, 80, 81, 82, 83, 84, 85, 86, 87, 88, 89, 90, 91, 92, 93] (by decide +kernel) (by decide +kernel)
set_option maxRecDepth 20000 in
theorem gX4_readInstruction_J0_indexOf_0f7a4 : GoodIn wsX4_readInstruction (wsV RX4 43 RJ0 yJ0_indexOf_0f7a4 wsJ0_indexOf_0f7a4) := goodIn_app (goodIn_of _ (by decide +kernel)) ggX4_readInstruction_J0_indexOf_0f7a4
set_option maxRecDepth 20000 in
theorem ggX4_readInstruction_X4_beginRow : GoodIn wsX4_readInstruction wsX4_beginRow := goodIn_r _ [98, 99, 3, 100, 101, 138, 139, 140, 141, 142, 143, 144, 145] (by decide +kernel) (by decide +kernel)
set_option maxRecDepth 20000 in
theorem gX4_readInstruction_X4_beginRow : GoodIn wsX4_readInstruction (wsV RX4 49 RX4 yX4_beginRow wsX4_beginRow) := goodIn_app (goodIn_of _ (by decide +kernel)) ggX4_readInstruction_X4_beginRow
set_option maxRecDepth 20000 in
theorem ggX4_readInstruction_X4_readOperands : GoodIn wsX4_readInstruction wsX4_readOperands := goodIn_r _ [105, 106, 107, 108, 97, 109, 110, 111, 112, 113, 1, 2, 4, 114, 115, 116, 117, 118, 119, 120, 121, 122, 123, 124, 101, 99, 3, 125, 126, 127, 128, 129, 130, 131, 132, 133, 134, 135, 136, 137, 38, 35, 39, 138, 139, 140, 141, 142, 143, 144, 145] (by decide +kernel) (by decide +kernel)
set_option maxRecDepth 20000 in
theorem gX4_readInstruction_X4_readOperands : GoodIn wsX4_readInstruction (wsV RX4 53 RX4 yX4_readOperands wsX4_readOperands) := goodIn_app (goodIn_of _ (by decide +kernel)) ggX4_readInstruction_X4_readOperands
theorem dX4_readInstruction_0 : decode cX4_readInstruction 0 = .ok (.aload_n 0, 1) := by decide +kernel
theorem dX4_readInstruction_1 : decode cX4_readInstruction 1 = .ok (.getfield 26, 3) := by decide +kernel
theorem dX4_readInstruction_4 : decode cX4_readInstruction 4 = .ok (.aload_n 0, 1) := by decide +kernel
theorem dX4_readInstruction_5 : decode cX4_readInstruction 5 = .ok (.getfield 22, 3) := by decide +kernel
theorem dX4_readInstruction_8 : decode cX4_readInstruction 8 = .ok (.if_icmp .ge 12, 3) := by decide +kernel
theorem dX4_readInstruction_11 : decode cX4_readInstruction 11 = .ok (.aload_n 0, 1) := by decide +kernel
theorem dX4_readInstruction_12 : decode cX4_readInstruction 12 = .ok (.getfield 29, 3) := by decide +kernel
theorem dX4_readInstruction_15 : decode cX4_readInstruction 15 = .ok (.bipush 50, 2) := by decide +kernel
theorem dX4_readInstruction_17 : decode cX4_readInstruction 17 = .ok (.if_icmp .lt 5, 3) := by decide +kernel
theorem dX4_readInstruction_20 : decode cX4_readInstruction 20 = .ok (.iconst 0, 1) := by decide +kernel
theorem dX4_readInstruction_21 : decode cX4_readInstruction 21 = .ok (.ireturn, 1) := by decide +kernel
theorem dX4_readInstruction_22 : decode cX4_readInstruction 22 = .ok (.ldc 41, 2) := by decide +kernel
theorem dX4_readInstruction_24 : decode cX4_readInstruction 24 = .ok (.aload_n 0, 1) := by decide +kernel
theorem dX4_readInstruction_25 : decode cX4_readInstruction 25 = .ok (.getfield 11, 3) := by decide +kernel
theorem dX4_readInstruction_28 : decode cX4_readInstruction 28 = .ok (.aload_n 0, 1) := by decide +kernel
theorem dX4_readInstruction_29 : decode cX4_readInstruction 29 = .ok (.getfield 26, 3) := by decide +kernel
theorem dX4_readInstruction_32 : decode cX4_readInstruction 32 = .ok (.caload, 1) := by decide +kernel
theorem dX4_readInstruction_33 : decode cX4_readInstruction 33 = .ok (.invokevirtual 43, 3) := by decide +kernel
theorem dX4_readInstruction_36 : decode cX4_readInstruction 36 = .ok (.istore_n 1, 1) := by decide +kernel
theorem dX4_readInstruction_37 : decode cX4_readInstruction 37 = .ok (.iload_n 1, 1) := by decide +kernel
theorem dX4_readInstruction_38 : decode cX4_readInstruction 38 = .ok (.ifCond .ge 5, 3) := by decide +kernel
theorem dX4_readInstruction_41 : decode cX4_readInstruction 41 = .ok (.iconst 0, 1) := by decide +kernel
theorem dX4_readInstruction_42 : decode cX4_readInstruction 42 = .ok (.ireturn, 1) := by decide +kernel
theorem dX4_readInstruction_43 : decode cX4_readInstruction 43 = .ok (.aload_n 0, 1) := by decide +kernel
theorem dX4_readInstruction_44 : decode cX4_readInstruction 44 = .ok (.dup, 1) := by decide +kernel
theorem dX4_readInstruction_45 : decode cX4_readInstruction 45 = .ok (.getfield 26, 3) := by decide +kernel
theorem dX4_readInstruction_48 : decode cX4_readInstruction 48 = .ok (.iconst 1, 1) := by decide +kernel
theorem dX4_readInstruction_49 : decode cX4_readInstruction 49 = .ok (.iadd, 1) := by decide +kernel
theorem dX4_readInstruction_50 : decode cX4_readInstruction 50 = .ok (.putfield 26, 3) := by decide +kernel
theorem dX4_readInstruction_53 : decode cX4_readInstruction 53 = .ok (.aload_n 0, 1) := by decide +kernel
theorem dX4_readInstruction_54 : decode cX4_readInstruction 54 = .ok (.iload_n 1, 1) := by decide +kernel
theorem dX4_readInstruction_55 : decode cX4_readInstruction 55 = .ok (.invokevirtual 49, 3) := by decide +kernel
theorem dX4_readInstruction_58 : decode cX4_readInstruction 58 = .ok (.aload_n 0, 1) := by decide +kernel
theorem dX4_readInstruction_59 : decode cX4_readInstruction 59 = .ok (.iload_n 1, 1) := by decide +kernel
theorem dX4_readInstruction_60 : decode cX4_readInstruction 60 = .ok (.invokevirtual 53, 3) := by decide +kernel
theorem dX4_readInstruction_63 : decode cX4_readInstruction 63 = .ok (.ifCond .ne 5, 3) := by decide +kernel
theorem dX4_readInstruction_66 : decode cX4_readInstruction 66 = .ok (.iconst 0, 1) := by decide +kernel
theorem dX4_readInstruction_67 : decode cX4_readInstruction 67 = .ok (.ireturn, 1) := by decide +kernel
theorem dX4_readInstruction_68 : decode cX4_readInstruction 68 = .ok (.aload_n 0, 1) := by decide +kernel
theorem dX4_readInstruction_69 : decode cX4_readInstruction 69 = .ok (.dup, 1) := by decide +kernel
theorem dX4_readInstruction_70 : decode cX4_readInstruction 70 = .ok (.getfield 29, 3) := by decide +kernel
theorem dX4_readInstruction_73 : decode cX4_readInstruction 73 = .ok (.iconst 1, 1) := by decide +kernel
theorem dX4_readInstruction_74 : decode cX4_readInstruction 74 = .ok (.iadd, 1) := by decide +kernel
theorem dX4_readInstruction_75 : decode cX4_readInstruction 75 = .ok (.putfield 29, 3) := by decide +kernel
theorem dX4_readInstruction_78 : decode cX4_readInstruction 78 = .ok (.iconst 1, 1) := by decide +kernel
theorem dX4_readInstruction_79 : decode cX4_readInstruction 79 = .ok (.ireturn, 1) := by decide +kernel
theorem dX4_beginRow_0 : decode cX4_beginRow 0 = .ok (.aload_n 0, 1) := by decide +kernel
theorem dX4_beginRow_1 : decode cX4_beginRow 1 = .ok (.getfield 18, 3) := by decide +kernel
theorem dX4_beginRow_4 : decode cX4_beginRow 4 = .ok (.getfield 57, 3) := by decide +kernel
theorem dX4_beginRow_7 : decode cX4_beginRow 7 = .ok (.aload_n 0, 1) := by decide +kernel
theorem dX4_beginRow_8 : decode cX4_beginRow 8 = .ok (.getfield 29, 3) := by decide +kernel
theorem dX4_beginRow_11 : decode cX4_beginRow 11 = .ok (.iload_n 1, 1) := by decide +kernel
theorem dX4_beginRow_12 : decode cX4_beginRow 12 = .ok (.iastore, 1) := by decide +kernel
theorem dX4_beginRow_13 : decode cX4_beginRow 13 = .ok (.aload_n 0, 1) := by decide +kernel
theorem dX4_beginRow_14 : decode cX4_beginRow 14 = .ok (.getfield 18, 3) := by decide +kernel
theorem dX4_beginRow_17 : decode cX4_beginRow 17 = .ok (.getfield 61, 3) := by decide +kernel
theorem dX4_beginRow_20 : decode cX4_beginRow 20 = .ok (.aload_n 0, 1) := by decide +kernel
theorem dX4_beginRow_21 : decode cX4_beginRow 21 = .ok (.getfield 29, 3) := by decide +kernel
theorem dX4_beginRow_24 : decode cX4_beginRow 24 = .ok (.iconst 2, 1) := by decide +kernel
theorem dX4_beginRow_25 : decode cX4_beginRow 25 = .ok (.imul, 1) := by decide +kernel
theorem dX4_beginRow_26 : decode cX4_beginRow 26 = .ok (.ldc 40, 2) := by decide +kernel
theorem dX4_beginRow_28 : decode cX4_beginRow 28 = .ok (.iastore, 1) := by decide +kernel
theorem dX4_beginRow_29 : decode cX4_beginRow 29 = .ok (.aload_n 0, 1) := by decide +kernel
theorem dX4_beginRow_30 : decode cX4_beginRow 30 = .ok (.getfield 18, 3) := by decide +kernel
theorem dX4_beginRow_33 : decode cX4_beginRow 33 = .ok (.getfield 61, 3) := by decide +kernel
theorem dX4_beginRow_36 : decode cX4_beginRow 36 = .ok (.aload_n 0, 1) := by decide +kernel
theorem dX4_beginRow_37 : decode cX4_beginRow 37 = .ok (.getfield 29, 3) := by decide +kernel
theorem dX4_beginRow_40 : decode cX4_beginRow 40 = .ok (.iconst 2, 1) := by decide +kernel
theorem dX4_beginRow_41 : decode cX4_beginRow 41 = .ok (.imul, 1) := by decide +kernel
theorem dX4_beginRow_42 : decode cX4_beginRow 42 = .ok (.iconst 1, 1) := by decide +kernel
theorem dX4_beginRow_43 : decode cX4_beginRow 43 = .ok (.iadd, 1) := by decide +kernel
theorem dX4_beginRow_44 : decode cX4_beginRow 44 = .ok (.ldc 40, 2) := by decide +kernel
theorem dX4_beginRow_46 : decode cX4_beginRow 46 = .ok (.iastore, 1) := by decide +kernel
theorem dX4_beginRow_47 : decode cX4_beginRow 47 = .ok (.aload_n 0, 1) := by decide +kernel
theorem dX4_beginRow_48 : decode cX4_beginRow 48 = .ok (.iconst 0, 1) := by decide +kernel
theorem dX4_beginRow_49 : decode cX4_beginRow 49 = .ok (.putfield 64, 3) := by decide +kernel
theorem dX4_beginRow_52 : decode cX4_beginRow 52 = .ok (.return_, 1) := by decide +kernel
set_option maxRecDepth 20000 in
theorem ggX4_readOperands_X4_readRegister : GoodIn wsX4_readOperands wsX4_readRegister := goodIn_r _ [5, 6, 7, 8, 4, 9, 10, 11, 12, 13, 14, 15, 16, 17, 18, 19, 20, 21, 22, 23, 24, 25, 26, 43, 44, 45, 46, 47, 48, 49, 50] (by decide +kernel) (by decide +kernel)
set_option maxRecDepth 20000 in
theorem gX4_readOperands_X4_readRegister : GoodIn wsX4_readOperands (wsV RX4 67 RX4 yX4_readRegister wsX4_readRegister) := goodIn_app (goodIn_of _ (by decide +kernel)) ggX4_readOperands_X4_readRegister
set_option maxRecDepth 20000 in
theorem ggX4_readOperands_X4_readSign : GoodIn wsX4_readOperands wsX4_readSign := goodIn_r _ [30, 10, 11, 12, 43, 44, 45, 46, 47, 48] (by decide +kernel) (by decide +kernel)
set_option maxRecDepth 20000 in
theorem gX4_readOperands_X4_readSign : GoodIn wsX4_readOperands (wsV RX4 36 RX4 yX4_readSign wsX4_readSign) := goodIn_app (goodIn_of _ (by decide +kernel)) ggX4_readOperands_X4_readSign
set_option maxRecDepth 20000 in
theorem ggX4_readOperands_X4_readNumber : GoodIn wsX4_readOperands wsX4_readNumber := goodIn_r _ [34, 27, 28, 29, 4, 30, 10, 11, 12, 6, 7, 8, 9, 13, 14, 15, 16, 17, 18, 19, 20, 21, 22, 23, 24, 25, 26, 43, 44, 45, 46, 47, 48, 49, 50] (by decide +kernel) (by decide +kernel)
set_option maxRecDepth 20000 in
theorem gX4_readOperands_X4_readNumber : GoodIn wsX4_readOperands (wsV RX4 70 RX4 yX4_readNumber wsX4_readNumber) := goodIn_app (goodIn_of _ (by decide +kernel)) ggX4_readOperands_X4_readNumber
set_option maxRecDepth 20000 in
theorem ggX4_readOperands_X4_readPlace : GoodIn wsX4_readOperands wsX4_readPlace := goodIn_r _ [38, 39, 40, 41, 42, 6, 7, 8, 4, 9, 10, 11, 12, 13, 14, 15, 16, 17, 18, 19, 20, 21, 22, 23, 24, 25, 26, 43, 44, 45, 46, 47, 48, 49, 50] (by decide +kernel) (by decide +kernel)
set_option maxRecDepth 20000 in
theorem gX4_readOperands_X4_readPlace : GoodIn wsX4_readOperands (wsV RX4 73 RX4 yX4_readPlace wsX4_readPlace) := goodIn_app (goodIn_of _ (by decide +kernel)) ggX4_readOperands_X4_readPlace
theorem dX4_readOperands_0 : decode cX4_readOperands 0 = .ok (.iload_n 1, 1) := by decide +kernel
theorem dX4_readOperands_1 : decode cX4_readOperands 1 = .ok (.tableswitch 128 0 11 #[63, 128, 128, 128, 128, 128, 128, 92, 97, 97, 126, 126], 63) := by decide +kernel
theorem dX4_readOperands_64 : decode cX4_readOperands 64 = .ok (.aload_n 0, 1) := by decide +kernel
theorem dX4_readOperands_65 : decode cX4_readOperands 65 = .ok (.invokevirtual 67, 3) := by decide +kernel
theorem dX4_readOperands_68 : decode cX4_readOperands 68 = .ok (.ifCond .eq 23, 3) := by decide +kernel
theorem dX4_readOperands_71 : decode cX4_readOperands 71 = .ok (.aload_n 0, 1) := by decide +kernel
theorem dX4_readOperands_72 : decode cX4_readOperands 72 = .ok (.bipush 61, 2) := by decide +kernel
theorem dX4_readOperands_74 : decode cX4_readOperands 74 = .ok (.invokevirtual 36, 3) := by decide +kernel
theorem dX4_readOperands_77 : decode cX4_readOperands 77 = .ok (.ifCond .eq 14, 3) := by decide +kernel
theorem dX4_readOperands_80 : decode cX4_readOperands 80 = .ok (.aload_n 0, 1) := by decide +kernel
theorem dX4_readOperands_81 : decode cX4_readOperands 81 = .ok (.invokevirtual 70, 3) := by decide +kernel
theorem dX4_readOperands_84 : decode cX4_readOperands 84 = .ok (.ifCond .eq 7, 3) := by decide +kernel
theorem dX4_readOperands_87 : decode cX4_readOperands 87 = .ok (.iconst 1, 1) := by decide +kernel
theorem dX4_readOperands_88 : decode cX4_readOperands 88 = .ok (.goto 4, 3) := by decide +kernel
theorem dX4_readOperands_91 : decode cX4_readOperands 91 = .ok (.iconst 0, 1) := by decide +kernel
theorem dX4_readOperands_92 : decode cX4_readOperands 92 = .ok (.ireturn, 1) := by decide +kernel
theorem dX4_readOperands_93 : decode cX4_readOperands 93 = .ok (.aload_n 0, 1) := by decide +kernel
theorem dX4_readOperands_94 : decode cX4_readOperands 94 = .ok (.invokevirtual 73, 3) := by decide +kernel
theorem dX4_readOperands_97 : decode cX4_readOperands 97 = .ok (.ireturn, 1) := by decide +kernel
theorem dX4_readOperands_98 : decode cX4_readOperands 98 = .ok (.aload_n 0, 1) := by decide +kernel
theorem dX4_readOperands_99 : decode cX4_readOperands 99 = .ok (.invokevirtual 67, 3) := by decide +kernel
theorem dX4_readOperands_102 : decode cX4_readOperands 102 = .ok (.ifCond .eq 23, 3) := by decide +kernel
theorem dX4_readOperands_105 : decode cX4_readOperands 105 = .ok (.aload_n 0, 1) := by decide +kernel
theorem dX4_readOperands_106 : decode cX4_readOperands 106 = .ok (.bipush 62, 2) := by decide +kernel
theorem dX4_readOperands_108 : decode cX4_readOperands 108 = .ok (.invokevirtual 36, 3) := by decide +kernel
theorem dX4_readOperands_111 : decode cX4_readOperands 111 = .ok (.ifCond .eq 14, 3) := by decide +kernel
theorem dX4_readOperands_114 : decode cX4_readOperands 114 = .ok (.aload_n 0, 1) := by decide +kernel
theorem dX4_readOperands_115 : decode cX4_readOperands 115 = .ok (.invokevirtual 73, 3) := by decide +kernel
theorem dX4_readOperands_118 : decode cX4_readOperands 118 = .ok (.ifCond .eq 7, 3) := by decide +kernel
theorem dX4_readOperands_121 : decode cX4_readOperands 121 = .ok (.iconst 1, 1) := by decide +kernel
theorem dX4_readOperands_122 : decode cX4_readOperands 122 = .ok (.goto 4, 3) := by decide +kernel
theorem dX4_readOperands_125 : decode cX4_readOperands 125 = .ok (.iconst 0, 1) := by decide +kernel
theorem dX4_readOperands_126 : decode cX4_readOperands 126 = .ok (.ireturn, 1) := by decide +kernel
theorem dX4_readOperands_127 : decode cX4_readOperands 127 = .ok (.iconst 1, 1) := by decide +kernel
theorem dX4_readOperands_128 : decode cX4_readOperands 128 = .ok (.ireturn, 1) := by decide +kernel
theorem dX4_readOperands_129 : decode cX4_readOperands 129 = .ok (.aload_n 0, 1) := by decide +kernel
theorem dX4_readOperands_130 : decode cX4_readOperands 130 = .ok (.invokevirtual 67, 3) := by decide +kernel
theorem dX4_readOperands_133 : decode cX4_readOperands 133 = .ok (.ifCond .eq 14, 3) := by decide +kernel
theorem dX4_readOperands_136 : decode cX4_readOperands 136 = .ok (.aload_n 0, 1) := by decide +kernel
theorem dX4_readOperands_137 : decode cX4_readOperands 137 = .ok (.invokevirtual 67, 3) := by decide +kernel
theorem dX4_readOperands_140 : decode cX4_readOperands 140 = .ok (.ifCond .eq 7, 3) := by decide +kernel
theorem dX4_readOperands_143 : decode cX4_readOperands 143 = .ok (.iconst 1, 1) := by decide +kernel
theorem dX4_readOperands_144 : decode cX4_readOperands 144 = .ok (.goto 4, 3) := by decide +kernel
theorem dX4_readOperands_147 : decode cX4_readOperands 147 = .ok (.iconst 0, 1) := by decide +kernel
theorem dX4_readOperands_148 : decode cX4_readOperands 148 = .ok (.ireturn, 1) := by decide +kernel
theorem dX4_readSign_0 : decode cX4_readSign 0 = .ok (.aload_n 0, 1) := by decide +kernel
theorem dX4_readSign_1 : decode cX4_readSign 1 = .ok (.getfield 26, 3) := by decide +kernel
theorem dX4_readSign_4 : decode cX4_readSign 4 = .ok (.aload_n 0, 1) := by decide +kernel
theorem dX4_readSign_5 : decode cX4_readSign 5 = .ok (.getfield 22, 3) := by decide +kernel
theorem dX4_readSign_8 : decode cX4_readSign 8 = .ok (.if_icmp .ge 16, 3) := by decide +kernel
theorem dX4_readSign_11 : decode cX4_readSign 11 = .ok (.aload_n 0, 1) := by decide +kernel
theorem dX4_readSign_12 : decode cX4_readSign 12 = .ok (.getfield 11, 3) := by decide +kernel
theorem dX4_readSign_15 : decode cX4_readSign 15 = .ok (.aload_n 0, 1) := by decide +kernel
theorem dX4_readSign_16 : decode cX4_readSign 16 = .ok (.getfield 26, 3) := by decide +kernel
theorem dX4_readSign_19 : decode cX4_readSign 19 = .ok (.caload, 1) := by decide +kernel
theorem dX4_readSign_20 : decode cX4_readSign 20 = .ok (.iload_n 1, 1) := by decide +kernel
theorem dX4_readSign_21 : decode cX4_readSign 21 = .ok (.if_icmp .eq 5, 3) := by decide +kernel
theorem dX4_readSign_24 : decode cX4_readSign 24 = .ok (.iconst 0, 1) := by decide +kernel
theorem dX4_readSign_25 : decode cX4_readSign 25 = .ok (.ireturn, 1) := by decide +kernel
theorem dX4_readSign_26 : decode cX4_readSign 26 = .ok (.aload_n 0, 1) := by decide +kernel
theorem dX4_readSign_27 : decode cX4_readSign 27 = .ok (.dup, 1) := by decide +kernel
theorem dX4_readSign_28 : decode cX4_readSign 28 = .ok (.getfield 26, 3) := by decide +kernel
theorem dX4_readSign_31 : decode cX4_readSign 31 = .ok (.iconst 1, 1) := by decide +kernel
theorem dX4_readSign_32 : decode cX4_readSign 32 = .ok (.iadd, 1) := by decide +kernel
theorem dX4_readSign_33 : decode cX4_readSign 33 = .ok (.putfield 26, 3) := by decide +kernel
theorem dX4_readSign_36 : decode cX4_readSign 36 = .ok (.iconst 1, 1) := by decide +kernel
theorem dX4_readSign_37 : decode cX4_readSign 37 = .ok (.ireturn, 1) := by decide +kernel
set_option maxRecDepth 20000 in
theorem ggX4_isDigit_X6_isWithin : GoodIn wsX4_isDigit wsX6_isWithin := goodIn_r _ [6] (by decide +kernel) (by decide +kernel)
set_option maxRecDepth 20000 in
theorem gX4_isDigit_X6_isWithin_n76 : GoodIn wsX4_isDigit (wsX6_isWithin) := ggX4_isDigit_X6_isWithin
theorem dX4_isDigit_0 : decode cX4_isDigit 0 = .ok (.aload_n 0, 1) := by decide +kernel
theorem dX4_isDigit_1 : decode cX4_isDigit 1 = .ok (.getfield 26, 3) := by decide +kernel
theorem dX4_isDigit_4 : decode cX4_isDigit 4 = .ok (.aload_n 0, 1) := by decide +kernel
theorem dX4_isDigit_5 : decode cX4_isDigit 5 = .ok (.getfield 22, 3) := by decide +kernel
theorem dX4_isDigit_8 : decode cX4_isDigit 8 = .ok (.if_icmp .ge 27, 3) := by decide +kernel
theorem dX4_isDigit_11 : decode cX4_isDigit 11 = .ok (.aload_n 0, 1) := by decide +kernel
theorem dX4_isDigit_12 : decode cX4_isDigit 12 = .ok (.getfield 11, 3) := by decide +kernel
theorem dX4_isDigit_15 : decode cX4_isDigit 15 = .ok (.aload_n 0, 1) := by decide +kernel
theorem dX4_isDigit_16 : decode cX4_isDigit 16 = .ok (.getfield 26, 3) := by decide +kernel
theorem dX4_isDigit_19 : decode cX4_isDigit 19 = .ok (.caload, 1) := by decide +kernel
theorem dX4_isDigit_20 : decode cX4_isDigit 20 = .ok (.bipush 48, 2) := by decide +kernel
theorem dX4_isDigit_22 : decode cX4_isDigit 22 = .ok (.isub, 1) := by decide +kernel
theorem dX4_isDigit_23 : decode cX4_isDigit 23 = .ok (.iload_n 1, 1) := by decide +kernel
theorem dX4_isDigit_24 : decode cX4_isDigit 24 = .ok (.iload_n 2, 1) := by decide +kernel
theorem dX4_isDigit_25 : decode cX4_isDigit 25 = .ok (.invokestatic 76, 3) := by decide +kernel
theorem dX4_isDigit_28 : decode cX4_isDigit 28 = .ok (.ifCond .eq 7, 3) := by decide +kernel
theorem dX4_isDigit_31 : decode cX4_isDigit 31 = .ok (.iconst 1, 1) := by decide +kernel
theorem dX4_isDigit_32 : decode cX4_isDigit 32 = .ok (.goto 4, 3) := by decide +kernel
theorem dX4_isDigit_35 : decode cX4_isDigit 35 = .ok (.iconst 0, 1) := by decide +kernel
theorem dX4_isDigit_36 : decode cX4_isDigit 36 = .ok (.ireturn, 1) := by decide +kernel
theorem dX4_takeDigit_0 : decode cX4_takeDigit 0 = .ok (.aload_n 0, 1) := by decide +kernel
theorem dX4_takeDigit_1 : decode cX4_takeDigit 1 = .ok (.getfield 26, 3) := by decide +kernel
theorem dX4_takeDigit_4 : decode cX4_takeDigit 4 = .ok (.aload_n 0, 1) := by decide +kernel
theorem dX4_takeDigit_5 : decode cX4_takeDigit 5 = .ok (.getfield 22, 3) := by decide +kernel
theorem dX4_takeDigit_8 : decode cX4_takeDigit 8 = .ok (.if_icmp .lt 5, 3) := by decide +kernel
theorem dX4_takeDigit_11 : decode cX4_takeDigit 11 = .ok (.iconst 0, 1) := by decide +kernel
theorem dX4_takeDigit_12 : decode cX4_takeDigit 12 = .ok (.ireturn, 1) := by decide +kernel
theorem dX4_takeDigit_13 : decode cX4_takeDigit 13 = .ok (.aload_n 0, 1) := by decide +kernel
theorem dX4_takeDigit_14 : decode cX4_takeDigit 14 = .ok (.getfield 11, 3) := by decide +kernel
theorem dX4_takeDigit_17 : decode cX4_takeDigit 17 = .ok (.aload_n 0, 1) := by decide +kernel
theorem dX4_takeDigit_18 : decode cX4_takeDigit 18 = .ok (.getfield 26, 3) := by decide +kernel
theorem dX4_takeDigit_21 : decode cX4_takeDigit 21 = .ok (.caload, 1) := by decide +kernel
theorem dX4_takeDigit_22 : decode cX4_takeDigit 22 = .ok (.bipush 48, 2) := by decide +kernel
theorem dX4_takeDigit_24 : decode cX4_takeDigit 24 = .ok (.isub, 1) := by decide +kernel
theorem dX4_takeDigit_25 : decode cX4_takeDigit 25 = .ok (.istore_n 1, 1) := by decide +kernel
theorem dX4_takeDigit_26 : decode cX4_takeDigit 26 = .ok (.aload_n 0, 1) := by decide +kernel
theorem dX4_takeDigit_27 : decode cX4_takeDigit 27 = .ok (.dup, 1) := by decide +kernel
theorem dX4_takeDigit_28 : decode cX4_takeDigit 28 = .ok (.getfield 26, 3) := by decide +kernel
theorem dX4_takeDigit_31 : decode cX4_takeDigit 31 = .ok (.iconst 1, 1) := by decide +kernel
theorem dX4_takeDigit_32 : decode cX4_takeDigit 32 = .ok (.iadd, 1) := by decide +kernel
theorem dX4_takeDigit_33 : decode cX4_takeDigit 33 = .ok (.putfield 26, 3) := by decide +kernel
theorem dX4_takeDigit_36 : decode cX4_takeDigit 36 = .ok (.iload_n 1, 1) := by decide +kernel
theorem dX4_takeDigit_37 : decode cX4_takeDigit 37 = .ok (.ireturn, 1) := by decide +kernel
set_option maxRecDepth 20000 in
theorem ggX4_readRegister_X4_isDigit : GoodIn wsX4_readRegister wsX4_isDigit := goodIn_r _ [5, 6, 7, 8, 9, 10, 11, 23, 24, 25, 26, 27, 28] (by decide +kernel) (by decide +kernel)
set_option maxRecDepth 20000 in
theorem gX4_readRegister_X4_isDigit : GoodIn wsX4_readRegister (wsV RX4 80 RX4 yX4_isDigit wsX4_isDigit) := goodIn_app (goodIn_of _ (by decide +kernel)) ggX4_readRegister_X4_isDigit
set_option maxRecDepth 20000 in
theorem ggX4_readRegister_X4_takeDigit : GoodIn wsX4_readRegister wsX4_takeDigit := goodIn_r _ [15, 6, 7, 8, 23, 24, 25, 26, 27, 28] (by decide +kernel) (by decide +kernel)
set_option maxRecDepth 20000 in
theorem gX4_readRegister_X4_takeDigit : GoodIn wsX4_readRegister (wsV RX4 84 RX4 yX4_takeDigit wsX4_takeDigit) := goodIn_app (goodIn_of _ (by decide +kernel)) ggX4_readRegister_X4_takeDigit
set_option maxRecDepth 20000 in
theorem ggX4_readRegister_X4_keepOperand : GoodIn wsX4_readRegister wsX4_keepOperand := goodIn_r _ [19, 20, 21, 22, 23, 24, 25, 26, 27, 28, 29, 30] (by decide +kernel) (by decide +kernel)
set_option maxRecDepth 20000 in
theorem gX4_readRegister_X4_keepOperand : GoodIn wsX4_readRegister (wsV RX4 88 RX4 yX4_keepOperand wsX4_keepOperand) := goodIn_app (goodIn_of _ (by decide +kernel)) ggX4_readRegister_X4_keepOperand
theorem dX4_readRegister_0 : decode cX4_readRegister 0 = .ok (.aload_n 0, 1) := by decide +kernel
theorem dX4_readRegister_1 : decode cX4_readRegister 1 = .ok (.iconst 0, 1) := by decide +kernel
theorem dX4_readRegister_2 : decode cX4_readRegister 2 = .ok (.iconst 3, 1) := by decide +kernel
theorem dX4_readRegister_3 : decode cX4_readRegister 3 = .ok (.invokevirtual 80, 3) := by decide +kernel
theorem dX4_readRegister_6 : decode cX4_readRegister 6 = .ok (.ifCond .ne 5, 3) := by decide +kernel
theorem dX4_readRegister_9 : decode cX4_readRegister 9 = .ok (.iconst 0, 1) := by decide +kernel
theorem dX4_readRegister_10 : decode cX4_readRegister 10 = .ok (.ireturn, 1) := by decide +kernel
theorem dX4_readRegister_11 : decode cX4_readRegister 11 = .ok (.aload_n 0, 1) := by decide +kernel
theorem dX4_readRegister_12 : decode cX4_readRegister 12 = .ok (.aload_n 0, 1) := by decide +kernel
theorem dX4_readRegister_13 : decode cX4_readRegister 13 = .ok (.invokevirtual 84, 3) := by decide +kernel
theorem dX4_readRegister_16 : decode cX4_readRegister 16 = .ok (.invokevirtual 88, 3) := by decide +kernel
theorem dX4_readRegister_19 : decode cX4_readRegister 19 = .ok (.iconst 1, 1) := by decide +kernel
theorem dX4_readRegister_20 : decode cX4_readRegister 20 = .ok (.ireturn, 1) := by decide +kernel
set_option maxRecDepth 20000 in
theorem ggX4_readNumber_X4_readSign : GoodIn wsX4_readNumber wsX4_readSign := goodIn_r _ [5, 6, 7, 8, 27, 28, 29, 30, 31, 32] (by decide +kernel) (by decide +kernel)
set_option maxRecDepth 20000 in
theorem gX4_readNumber_X4_readSign : GoodIn wsX4_readNumber (wsV RX4 36 RX4 yX4_readSign wsX4_readSign) := goodIn_app (goodIn_of _ (by decide +kernel)) ggX4_readNumber_X4_readSign
set_option maxRecDepth 20000 in
theorem ggX4_readNumber_X4_isDigit : GoodIn wsX4_readNumber wsX4_isDigit := goodIn_r _ [12, 6, 7, 8, 13, 14, 15, 27, 28, 29, 30, 31, 32] (by decide +kernel) (by decide +kernel)
set_option maxRecDepth 20000 in
theorem gX4_readNumber_X4_isDigit : GoodIn wsX4_readNumber (wsV RX4 80 RX4 yX4_isDigit wsX4_isDigit) := goodIn_app (goodIn_of _ (by decide +kernel)) ggX4_readNumber_X4_isDigit
set_option maxRecDepth 20000 in
theorem ggX4_readNumber_X4_takeDigit : GoodIn wsX4_readNumber wsX4_takeDigit := goodIn_r _ [19, 6, 7, 8, 27, 28, 29, 30, 31, 32] (by decide +kernel) (by decide +kernel)
set_option maxRecDepth 20000 in
theorem gX4_readNumber_X4_takeDigit : GoodIn wsX4_readNumber (wsV RX4 84 RX4 yX4_takeDigit wsX4_takeDigit) := goodIn_app (goodIn_of _ (by decide +kernel)) ggX4_readNumber_X4_takeDigit
set_option maxRecDepth 20000 in
theorem ggX4_readNumber_X4_keepOperand : GoodIn wsX4_readNumber wsX4_keepOperand := goodIn_r _ [23, 24, 25, 26, 27, 28, 29, 30, 31, 32, 33, 34] (by decide +kernel) (by decide +kernel)
set_option maxRecDepth 20000 in
theorem gX4_readNumber_X4_keepOperand : GoodIn wsX4_readNumber (wsV RX4 88 RX4 yX4_keepOperand wsX4_keepOperand) := goodIn_app (goodIn_of _ (by decide +kernel)) ggX4_readNumber_X4_keepOperand
theorem dX4_readNumber_0 : decode cX4_readNumber 0 = .ok (.aload_n 0, 1) := by decide +kernel
theorem dX4_readNumber_1 : decode cX4_readNumber 1 = .ok (.bipush 45, 2) := by decide +kernel
theorem dX4_readNumber_3 : decode cX4_readNumber 3 = .ok (.invokevirtual 36, 3) := by decide +kernel
theorem dX4_readNumber_6 : decode cX4_readNumber 6 = .ok (.istore_n 1, 1) := by decide +kernel
theorem dX4_readNumber_7 : decode cX4_readNumber 7 = .ok (.aload_n 0, 1) := by decide +kernel
theorem dX4_readNumber_8 : decode cX4_readNumber 8 = .ok (.iload_n 1, 1) := by decide +kernel
theorem dX4_readNumber_9 : decode cX4_readNumber 9 = .ok (.ifCond .eq 7, 3) := by decide +kernel
theorem dX4_readNumber_12 : decode cX4_readNumber 12 = .ok (.iconst 1, 1) := by decide +kernel
theorem dX4_readNumber_13 : decode cX4_readNumber 13 = .ok (.goto 4, 3) := by decide +kernel
theorem dX4_readNumber_16 : decode cX4_readNumber 16 = .ok (.iconst 0, 1) := by decide +kernel
theorem dX4_readNumber_17 : decode cX4_readNumber 17 = .ok (.bipush 9, 2) := by decide +kernel
theorem dX4_readNumber_19 : decode cX4_readNumber 19 = .ok (.invokevirtual 80, 3) := by decide +kernel
theorem dX4_readNumber_22 : decode cX4_readNumber 22 = .ok (.ifCond .ne 5, 3) := by decide +kernel
theorem dX4_readNumber_25 : decode cX4_readNumber 25 = .ok (.iconst 0, 1) := by decide +kernel
theorem dX4_readNumber_26 : decode cX4_readNumber 26 = .ok (.ireturn, 1) := by decide +kernel
theorem dX4_readNumber_27 : decode cX4_readNumber 27 = .ok (.aload_n 0, 1) := by decide +kernel
theorem dX4_readNumber_28 : decode cX4_readNumber 28 = .ok (.invokevirtual 84, 3) := by decide +kernel
theorem dX4_readNumber_31 : decode cX4_readNumber 31 = .ok (.istore_n 2, 1) := by decide +kernel
theorem dX4_readNumber_32 : decode cX4_readNumber 32 = .ok (.iload_n 2, 1) := by decide +kernel
theorem dX4_readNumber_33 : decode cX4_readNumber 33 = .ok (.ifCond .eq 23, 3) := by decide +kernel
theorem dX4_readNumber_36 : decode cX4_readNumber 36 = .ok (.aload_n 0, 1) := by decide +kernel
theorem dX4_readNumber_37 : decode cX4_readNumber 37 = .ok (.iconst 0, 1) := by decide +kernel
theorem dX4_readNumber_38 : decode cX4_readNumber 38 = .ok (.bipush 9, 2) := by decide +kernel
theorem dX4_readNumber_40 : decode cX4_readNumber 40 = .ok (.invokevirtual 80, 3) := by decide +kernel
theorem dX4_readNumber_43 : decode cX4_readNumber 43 = .ok (.ifCond .eq 13, 3) := by decide +kernel
theorem dX4_readNumber_46 : decode cX4_readNumber 46 = .ok (.iload_n 2, 1) := by decide +kernel
theorem dX4_readNumber_47 : decode cX4_readNumber 47 = .ok (.bipush 10, 2) := by decide +kernel
theorem dX4_readNumber_49 : decode cX4_readNumber 49 = .ok (.imul, 1) := by decide +kernel
theorem dX4_readNumber_50 : decode cX4_readNumber 50 = .ok (.aload_n 0, 1) := by decide +kernel
theorem dX4_readNumber_51 : decode cX4_readNumber 51 = .ok (.invokevirtual 84, 3) := by decide +kernel
theorem dX4_readNumber_54 : decode cX4_readNumber 54 = .ok (.iadd, 1) := by decide +kernel
theorem dX4_readNumber_55 : decode cX4_readNumber 55 = .ok (.istore_n 2, 1) := by decide +kernel
theorem dX4_readNumber_56 : decode cX4_readNumber 56 = .ok (.aload_n 0, 1) := by decide +kernel
theorem dX4_readNumber_57 : decode cX4_readNumber 57 = .ok (.iload_n 1, 1) := by decide +kernel
theorem dX4_readNumber_58 : decode cX4_readNumber 58 = .ok (.ifCond .eq 8, 3) := by decide +kernel
theorem dX4_readNumber_61 : decode cX4_readNumber 61 = .ok (.iload_n 2, 1) := by decide +kernel
theorem dX4_readNumber_62 : decode cX4_readNumber 62 = .ok (.ineg, 1) := by decide +kernel
theorem dX4_readNumber_63 : decode cX4_readNumber 63 = .ok (.goto 4, 3) := by decide +kernel
theorem dX4_readNumber_66 : decode cX4_readNumber 66 = .ok (.iload_n 2, 1) := by decide +kernel
theorem dX4_readNumber_67 : decode cX4_readNumber 67 = .ok (.invokevirtual 88, 3) := by decide +kernel
theorem dX4_readNumber_70 : decode cX4_readNumber 70 = .ok (.iconst 1, 1) := by decide +kernel
theorem dX4_readNumber_71 : decode cX4_readNumber 71 = .ok (.ireturn, 1) := by decide +kernel
set_option maxRecDepth 20000 in
theorem ggX4_readPlace_X4_isDigit : GoodIn wsX4_readPlace wsX4_isDigit := goodIn_r _ [9, 10, 11, 12, 13, 14, 15, 27, 28, 29, 30, 31, 32] (by decide +kernel) (by decide +kernel)
set_option maxRecDepth 20000 in
theorem gX4_readPlace_X4_isDigit : GoodIn wsX4_readPlace (wsV RX4 80 RX4 yX4_isDigit wsX4_isDigit) := goodIn_app (goodIn_of _ (by decide +kernel)) ggX4_readPlace_X4_isDigit
set_option maxRecDepth 20000 in
theorem ggX4_readPlace_X4_takeDigit : GoodIn wsX4_readPlace wsX4_takeDigit := goodIn_r _ [19, 10, 11, 12, 27, 28, 29, 30, 31, 32] (by decide +kernel) (by decide +kernel)
set_option maxRecDepth 20000 in
theorem gX4_readPlace_X4_takeDigit : GoodIn wsX4_readPlace (wsV RX4 84 RX4 yX4_takeDigit wsX4_takeDigit) := goodIn_app (goodIn_of _ (by decide +kernel)) ggX4_readPlace_X4_takeDigit
set_option maxRecDepth 20000 in
theorem ggX4_readPlace_X4_keepOperand : GoodIn wsX4_readPlace wsX4_keepOperand := goodIn_r _ [23, 24, 25, 26, 27, 28, 29, 30, 31, 32, 33, 34] (by decide +kernel) (by decide +kernel)
set_option maxRecDepth 20000 in
theorem gX4_readPlace_X4_keepOperand : GoodIn wsX4_readPlace (wsV RX4 88 RX4 yX4_keepOperand wsX4_keepOperand) := goodIn_app (goodIn_of _ (by decide +kernel)) ggX4_readPlace_X4_keepOperand
theorem dX4_readPlace_0 : decode cX4_readPlace 0 = .ok (.aload_n 0, 1) := by decide +kernel
theorem dX4_readPlace_1 : decode cX4_readPlace 1 = .ok (.iconst 0, 1) := by decide +kernel
theorem dX4_readPlace_2 : decode cX4_readPlace 2 = .ok (.bipush 9, 2) := by decide +kernel
theorem dX4_readPlace_4 : decode cX4_readPlace 4 = .ok (.invokevirtual 80, 3) := by decide +kernel
theorem dX4_readPlace_7 : decode cX4_readPlace 7 = .ok (.ifCond .ne 5, 3) := by decide +kernel
theorem dX4_readPlace_10 : decode cX4_readPlace 10 = .ok (.iconst 0, 1) := by decide +kernel
theorem dX4_readPlace_11 : decode cX4_readPlace 11 = .ok (.ireturn, 1) := by decide +kernel
theorem dX4_readPlace_12 : decode cX4_readPlace 12 = .ok (.aload_n 0, 1) := by decide +kernel
theorem dX4_readPlace_13 : decode cX4_readPlace 13 = .ok (.invokevirtual 84, 3) := by decide +kernel
theorem dX4_readPlace_16 : decode cX4_readPlace 16 = .ok (.istore_n 1, 1) := by decide +kernel
theorem dX4_readPlace_17 : decode cX4_readPlace 17 = .ok (.bipush 9, 2) := by decide +kernel
theorem dX4_readPlace_19 : decode cX4_readPlace 19 = .ok (.bipush 47, 2) := by decide +kernel
theorem dX4_readPlace_21 : decode cX4_readPlace 21 = .ok (.iload_n 1, 1) := by decide +kernel
theorem dX4_readPlace_22 : decode cX4_readPlace 22 = .ok (.bipush 10, 2) := by decide +kernel
theorem dX4_readPlace_24 : decode cX4_readPlace 24 = .ok (.imul, 1) := by decide +kernel
theorem dX4_readPlace_25 : decode cX4_readPlace 25 = .ok (.isub, 1) := by decide +kernel
theorem dX4_readPlace_26 : decode cX4_readPlace 26 = .ok (.invokestatic 91, 3) := by decide +kernel
theorem dX4_readPlace_29 : decode cX4_readPlace 29 = .ok (.istore_n 2, 1) := by decide +kernel
theorem dX4_readPlace_30 : decode cX4_readPlace 30 = .ok (.iload_n 1, 1) := by decide +kernel
theorem dX4_readPlace_31 : decode cX4_readPlace 31 = .ok (.ifCond .eq 22, 3) := by decide +kernel
theorem dX4_readPlace_34 : decode cX4_readPlace 34 = .ok (.aload_n 0, 1) := by decide +kernel
theorem dX4_readPlace_35 : decode cX4_readPlace 35 = .ok (.iconst 0, 1) := by decide +kernel
theorem dX4_readPlace_36 : decode cX4_readPlace 36 = .ok (.iload_n 2, 1) := by decide +kernel
theorem dX4_readPlace_37 : decode cX4_readPlace 37 = .ok (.invokevirtual 80, 3) := by decide +kernel
theorem dX4_readPlace_40 : decode cX4_readPlace 40 = .ok (.ifCond .eq 13, 3) := by decide +kernel
theorem dX4_readPlace_43 : decode cX4_readPlace 43 = .ok (.iload_n 1, 1) := by decide +kernel
theorem dX4_readPlace_44 : decode cX4_readPlace 44 = .ok (.bipush 10, 2) := by decide +kernel
theorem dX4_readPlace_46 : decode cX4_readPlace 46 = .ok (.imul, 1) := by decide +kernel
theorem dX4_readPlace_47 : decode cX4_readPlace 47 = .ok (.aload_n 0, 1) := by decide +kernel
theorem dX4_readPlace_48 : decode cX4_readPlace 48 = .ok (.invokevirtual 84, 3) := by decide +kernel
theorem dX4_readPlace_51 : decode cX4_readPlace 51 = .ok (.iadd, 1) := by decide +kernel
theorem dX4_readPlace_52 : decode cX4_readPlace 52 = .ok (.istore_n 1, 1) := by decide +kernel
theorem dX4_readPlace_53 : decode cX4_readPlace 53 = .ok (.aload_n 0, 1) := by decide +kernel
theorem dX4_readPlace_54 : decode cX4_readPlace 54 = .ok (.iload_n 1, 1) := by decide +kernel
theorem dX4_readPlace_55 : decode cX4_readPlace 55 = .ok (.invokevirtual 88, 3) := by decide +kernel
theorem dX4_readPlace_58 : decode cX4_readPlace 58 = .ok (.iconst 1, 1) := by decide +kernel
theorem dX4_readPlace_59 : decode cX4_readPlace 59 = .ok (.ireturn, 1) := by decide +kernel
theorem dX4_keepOperand_0 : decode cX4_keepOperand 0 = .ok (.aload_n 0, 1) := by decide +kernel
theorem dX4_keepOperand_1 : decode cX4_keepOperand 1 = .ok (.getfield 64, 3) := by decide +kernel
theorem dX4_keepOperand_4 : decode cX4_keepOperand 4 = .ok (.iconst 2, 1) := by decide +kernel
theorem dX4_keepOperand_5 : decode cX4_keepOperand 5 = .ok (.if_icmp .ge 33, 3) := by decide +kernel
theorem dX4_keepOperand_8 : decode cX4_keepOperand 8 = .ok (.aload_n 0, 1) := by decide +kernel
theorem dX4_keepOperand_9 : decode cX4_keepOperand 9 = .ok (.getfield 18, 3) := by decide +kernel
theorem dX4_keepOperand_12 : decode cX4_keepOperand 12 = .ok (.getfield 61, 3) := by decide +kernel
theorem dX4_keepOperand_15 : decode cX4_keepOperand 15 = .ok (.aload_n 0, 1) := by decide +kernel
theorem dX4_keepOperand_16 : decode cX4_keepOperand 16 = .ok (.getfield 29, 3) := by decide +kernel
theorem dX4_keepOperand_19 : decode cX4_keepOperand 19 = .ok (.iconst 2, 1) := by decide +kernel
theorem dX4_keepOperand_20 : decode cX4_keepOperand 20 = .ok (.imul, 1) := by decide +kernel
theorem dX4_keepOperand_21 : decode cX4_keepOperand 21 = .ok (.aload_n 0, 1) := by decide +kernel
theorem dX4_keepOperand_22 : decode cX4_keepOperand 22 = .ok (.getfield 64, 3) := by decide +kernel
theorem dX4_keepOperand_25 : decode cX4_keepOperand 25 = .ok (.iadd, 1) := by decide +kernel
theorem dX4_keepOperand_26 : decode cX4_keepOperand 26 = .ok (.iload_n 1, 1) := by decide +kernel
theorem dX4_keepOperand_27 : decode cX4_keepOperand 27 = .ok (.iastore, 1) := by decide +kernel
theorem dX4_keepOperand_28 : decode cX4_keepOperand 28 = .ok (.aload_n 0, 1) := by decide +kernel
theorem dX4_keepOperand_29 : decode cX4_keepOperand 29 = .ok (.dup, 1) := by decide +kernel
theorem dX4_keepOperand_30 : decode cX4_keepOperand 30 = .ok (.getfield 64, 3) := by decide +kernel
theorem dX4_keepOperand_33 : decode cX4_keepOperand 33 = .ok (.iconst 1, 1) := by decide +kernel
theorem dX4_keepOperand_34 : decode cX4_keepOperand 34 = .ok (.iadd, 1) := by decide +kernel
theorem dX4_keepOperand_35 : decode cX4_keepOperand 35 = .ok (.putfield 64, 3) := by decide +kernel
theorem dX4_keepOperand_38 : decode cX4_keepOperand 38 = .ok (.return_, 1) := by decide +kernel
theorem dX5_init_0 : decode cX5_init 0 = .ok (.aload_n 0, 1) := by decide +kernel
theorem dX5_init_1 : decode cX5_init 1 = .ok (.invokespecial 3, 3) := by decide +kernel
theorem dX5_init_4 : decode cX5_init 4 = .ok (.aload_n 0, 1) := by decide +kernel
theorem dX5_init_5 : decode cX5_init 5 = .ok (.bipush 48, 2) := by decide +kernel
theorem dX5_init_7 : decode cX5_init 7 = .ok (.newarray .int, 2) := by decide +kernel
theorem dX5_init_9 : decode cX5_init 9 = .ok (.putfield 11, 3) := by decide +kernel
theorem dX5_init_12 : decode cX5_init 12 = .ok (.return_, 1) := by decide +kernel
theorem dX5_note_0 : decode cX5_note 0 = .ok (.aload_n 0, 1) := by decide +kernel
theorem dX5_note_1 : decode cX5_note 1 = .ok (.getfield 15, 3) := by decide +kernel
theorem dX5_note_4 : decode cX5_note 4 = .ok (.iconst 3, 1) := by decide +kernel
theorem dX5_note_5 : decode cX5_note 5 = .ok (.imul, 1) := by decide +kernel
theorem dX5_note_6 : decode cX5_note 6 = .ok (.istore 4, 2) := by decide +kernel
theorem dX5_note_8 : decode cX5_note 8 = .ok (.aload_n 0, 1) := by decide +kernel
theorem dX5_note_9 : decode cX5_note 9 = .ok (.getfield 11, 3) := by decide +kernel
theorem dX5_note_12 : decode cX5_note 12 = .ok (.iload 4, 2) := by decide +kernel
theorem dX5_note_14 : decode cX5_note 14 = .ok (.iload_n 1, 1) := by decide +kernel
theorem dX5_note_15 : decode cX5_note 15 = .ok (.iastore, 1) := by decide +kernel
theorem dX5_note_16 : decode cX5_note 16 = .ok (.aload_n 0, 1) := by decide +kernel
theorem dX5_note_17 : decode cX5_note 17 = .ok (.getfield 11, 3) := by decide +kernel
theorem dX5_note_20 : decode cX5_note 20 = .ok (.iload 4, 2) := by decide +kernel
theorem dX5_note_22 : decode cX5_note 22 = .ok (.iconst 1, 1) := by decide +kernel
theorem dX5_note_23 : decode cX5_note 23 = .ok (.iadd, 1) := by decide +kernel
theorem dX5_note_24 : decode cX5_note 24 = .ok (.iload_n 2, 1) := by decide +kernel
theorem dX5_note_25 : decode cX5_note 25 = .ok (.iastore, 1) := by decide +kernel
theorem dX5_note_26 : decode cX5_note 26 = .ok (.aload_n 0, 1) := by decide +kernel
theorem dX5_note_27 : decode cX5_note 27 = .ok (.getfield 11, 3) := by decide +kernel
theorem dX5_note_30 : decode cX5_note 30 = .ok (.iload 4, 2) := by decide +kernel
theorem dX5_note_32 : decode cX5_note 32 = .ok (.iconst 2, 1) := by decide +kernel
theorem dX5_note_33 : decode cX5_note 33 = .ok (.iadd, 1) := by decide +kernel
theorem dX5_note_34 : decode cX5_note 34 = .ok (.iload_n 3, 1) := by decide +kernel
theorem dX5_note_35 : decode cX5_note 35 = .ok (.iastore, 1) := by decide +kernel
theorem dX5_note_36 : decode cX5_note 36 = .ok (.aload_n 0, 1) := by decide +kernel
theorem dX5_note_37 : decode cX5_note 37 = .ok (.aload_n 0, 1) := by decide +kernel
theorem dX5_note_38 : decode cX5_note 38 = .ok (.getfield 15, 3) := by decide +kernel
theorem dX5_note_41 : decode cX5_note 41 = .ok (.iconst 1, 1) := by decide +kernel
theorem dX5_note_42 : decode cX5_note 42 = .ok (.iadd, 1) := by decide +kernel
theorem dX5_note_43 : decode cX5_note 43 = .ok (.bipush 16, 2) := by decide +kernel
theorem dX5_note_45 : decode cX5_note 45 = .ok (.irem, 1) := by decide +kernel
theorem dX5_note_46 : decode cX5_note 46 = .ok (.putfield 15, 3) := by decide +kernel
theorem dX5_note_49 : decode cX5_note 49 = .ok (.aload_n 0, 1) := by decide +kernel
theorem dX5_note_50 : decode cX5_note 50 = .ok (.aload_n 0, 1) := by decide +kernel
theorem dX5_note_51 : decode cX5_note 51 = .ok (.getfield 19, 3) := by decide +kernel
theorem dX5_note_54 : decode cX5_note 54 = .ok (.iconst 1, 1) := by decide +kernel
theorem dX5_note_55 : decode cX5_note 55 = .ok (.iadd, 1) := by decide +kernel
theorem dX5_note_56 : decode cX5_note 56 = .ok (.bipush 16, 2) := by decide +kernel
theorem dX5_note_58 : decode cX5_note 58 = .ok (.invokestatic 22, 3) := by decide +kernel
theorem dX5_note_61 : decode cX5_note 61 = .ok (.putfield 19, 3) := by decide +kernel
theorem dX5_note_64 : decode cX5_note 64 = .ok (.return_, 1) := by decide +kernel
theorem dX5_lookUp_0 : decode cX5_lookUp 0 = .ok (.iload_n 1, 1) := by decide +kernel
theorem dX5_lookUp_1 : decode cX5_lookUp 1 = .ok (.aload_n 0, 1) := by decide +kernel
theorem dX5_lookUp_2 : decode cX5_lookUp 2 = .ok (.getfield 19, 3) := by decide +kernel
theorem dX5_lookUp_5 : decode cX5_lookUp 5 = .ok (.if_icmp .lt 6, 3) := by decide +kernel
theorem dX5_lookUp_8 : decode cX5_lookUp 8 = .ok (.ldc 28, 2) := by decide +kernel
theorem dX5_lookUp_10 : decode cX5_lookUp 10 = .ok (.ireturn, 1) := by decide +kernel
theorem dX5_lookUp_11 : decode cX5_lookUp 11 = .ok (.aload_n 0, 1) := by decide +kernel
theorem dX5_lookUp_12 : decode cX5_lookUp 12 = .ok (.getfield 15, 3) := by decide +kernel
theorem dX5_lookUp_15 : decode cX5_lookUp 15 = .ok (.bipush 16, 2) := by decide +kernel
theorem dX5_lookUp_17 : decode cX5_lookUp 17 = .ok (.iadd, 1) := by decide +kernel
theorem dX5_lookUp_18 : decode cX5_lookUp 18 = .ok (.iconst 1, 1) := by decide +kernel
theorem dX5_lookUp_19 : decode cX5_lookUp 19 = .ok (.isub, 1) := by decide +kernel
theorem dX5_lookUp_20 : decode cX5_lookUp 20 = .ok (.iload_n 1, 1) := by decide +kernel
theorem dX5_lookUp_21 : decode cX5_lookUp 21 = .ok (.isub, 1) := by decide +kernel
theorem dX5_lookUp_22 : decode cX5_lookUp 22 = .ok (.bipush 16, 2) := by decide +kernel
theorem dX5_lookUp_24 : decode cX5_lookUp 24 = .ok (.irem, 1) := by decide +kernel
theorem dX5_lookUp_25 : decode cX5_lookUp 25 = .ok (.istore_n 3, 1) := by decide +kernel
theorem dX5_lookUp_26 : decode cX5_lookUp 26 = .ok (.aload_n 0, 1) := by decide +kernel
theorem dX5_lookUp_27 : decode cX5_lookUp 27 = .ok (.getfield 11, 3) := by decide +kernel
theorem dX5_lookUp_30 : decode cX5_lookUp 30 = .ok (.iload_n 3, 1) := by decide +kernel
theorem dX5_lookUp_31 : decode cX5_lookUp 31 = .ok (.iconst 3, 1) := by decide +kernel
theorem dX5_lookUp_32 : decode cX5_lookUp 32 = .ok (.imul, 1) := by decide +kernel
theorem dX5_lookUp_33 : decode cX5_lookUp 33 = .ok (.iload_n 2, 1) := by decide +kernel
theorem dX5_lookUp_34 : decode cX5_lookUp 34 = .ok (.iadd, 1) := by decide +kernel
theorem dX5_lookUp_35 : decode cX5_lookUp 35 = .ok (.iaload, 1) := by decide +kernel
theorem dX5_lookUp_36 : decode cX5_lookUp 36 = .ok (.ireturn, 1) := by decide +kernel
theorem dX5_copyFrom_0 : decode cX5_copyFrom 0 = .ok (.aload_n 1, 1) := by decide +kernel
theorem dX5_copyFrom_1 : decode cX5_copyFrom 1 = .ok (.getfield 11, 3) := by decide +kernel
theorem dX5_copyFrom_4 : decode cX5_copyFrom 4 = .ok (.iconst 0, 1) := by decide +kernel
theorem dX5_copyFrom_5 : decode cX5_copyFrom 5 = .ok (.aload_n 0, 1) := by decide +kernel
theorem dX5_copyFrom_6 : decode cX5_copyFrom 6 = .ok (.getfield 11, 3) := by decide +kernel
theorem dX5_copyFrom_9 : decode cX5_copyFrom 9 = .ok (.iconst 0, 1) := by decide +kernel
theorem dX5_copyFrom_10 : decode cX5_copyFrom 10 = .ok (.bipush 48, 2) := by decide +kernel
theorem dX5_copyFrom_12 : decode cX5_copyFrom 12 = .ok (.invokestatic 29, 3) := by decide +kernel
theorem dX5_copyFrom_15 : decode cX5_copyFrom 15 = .ok (.aload_n 0, 1) := by decide +kernel
theorem dX5_copyFrom_16 : decode cX5_copyFrom 16 = .ok (.aload_n 1, 1) := by decide +kernel
theorem dX5_copyFrom_17 : decode cX5_copyFrom 17 = .ok (.getfield 15, 3) := by decide +kernel
theorem dX5_copyFrom_20 : decode cX5_copyFrom 20 = .ok (.putfield 15, 3) := by decide +kernel
theorem dX5_copyFrom_23 : decode cX5_copyFrom 23 = .ok (.aload_n 0, 1) := by decide +kernel
theorem dX5_copyFrom_24 : decode cX5_copyFrom 24 = .ok (.aload_n 1, 1) := by decide +kernel
theorem dX5_copyFrom_25 : decode cX5_copyFrom 25 = .ok (.getfield 19, 3) := by decide +kernel
theorem dX5_copyFrom_28 : decode cX5_copyFrom 28 = .ok (.putfield 19, 3) := by decide +kernel
theorem dX5_copyFrom_31 : decode cX5_copyFrom 31 = .ok (.return_, 1) := by decide +kernel
set_option maxRecDepth 20000 in
theorem ggX6_init_X3_init : GoodIn wsX6_init wsX3_init := goodIn_r _ [19, 20, 2, 3, 21, 22, 23, 24, 25, 26, 27, 28, 29, 30, 31, 32, 33, 34, 35, 36, 37, 38, 39, 40, 41, 42, 43, 44, 45, 46, 47, 48, 49, 50, 51, 52, 53, 54, 55, 56, 57, 58, 74, 75, 76, 77, 78, 79, 80, 81, 82, 96, 97, 98, 99, 100, 101, 102, 103, 104, 105, 106, 107, 108, 109, 110, 111] (by decide +kernel) (by decide +kernel)
set_option maxRecDepth 20000 in
theorem gX6_init_X3_init : GoodIn wsX6_init (wsX3_init) := ggX6_init_X3_init
set_option maxRecDepth 20000 in
theorem ggX6_init_X1_init : GoodIn wsX6_init wsX1_init := goodIn_r _ [61, 62, 2, 3, 63, 64, 5, 6, 65, 18, 19, 20, 21, 22, 23, 24, 25, 26, 27, 28, 29, 30, 31, 32, 33, 34, 35, 36, 37, 38, 39, 40, 41, 42, 43, 44, 45, 46, 47, 48, 49, 50, 51, 52, 53, 54, 55, 56, 57, 58, 87, 88, 89, 74, 75, 76, 77, 78, 79, 80, 81, 82, 96, 97, 98, 99, 100, 101, 102, 103, 104, 105, 106, 107, 108, 109, 110, 111] (by decide +kernel) (by decide +kernel)
set_option maxRecDepth 20000 in
theorem gX6_init_X1_init : GoodIn wsX6_init (wsX1_init) := ggX6_init_X1_init
set_option maxRecDepth 20000 in
theorem ggX6_init_X4_init : GoodIn wsX6_init wsX4_init := goodIn_r _ [67, 68, 2, 3, 69, 70, 71, 24, 25, 72, 73, 39, 40, 41, 27, 42, 43, 44, 45, 46, 47, 48, 90, 91, 92, 93, 94, 95, 96, 97] (by decide +kernel) (by decide +kernel)
set_option maxRecDepth 20000 in
theorem gX6_init_X4_init_n28 : GoodIn wsX6_init (wsX4_init) := ggX6_init_X4_init
theorem dX6_init_0 : decode cX6_init 0 = .ok (.aload_n 0, 1) := by decide +kernel
theorem dX6_init_1 : decode cX6_init 1 = .ok (.invokespecial 1, 3) := by decide +kernel
theorem dX6_init_4 : decode cX6_init 4 = .ok (.aload_n 0, 1) := by decide +kernel
theorem dX6_init_5 : decode cX6_init 5 = .ok (.new 7, 3) := by decide +kernel
theorem dX6_init_8 : decode cX6_init 8 = .ok (.dup, 1) := by decide +kernel
theorem dX6_init_9 : decode cX6_init 9 = .ok (.invokespecial 9, 3) := by decide +kernel
theorem dX6_init_12 : decode cX6_init 12 = .ok (.putfield 10, 3) := by decide +kernel
theorem dX6_init_15 : decode cX6_init 15 = .ok (.aload_n 0, 1) := by decide +kernel
theorem dX6_init_16 : decode cX6_init 16 = .ok (.new 7, 3) := by decide +kernel
theorem dX6_init_19 : decode cX6_init 19 = .ok (.dup, 1) := by decide +kernel
theorem dX6_init_20 : decode cX6_init 20 = .ok (.invokespecial 9, 3) := by decide +kernel
theorem dX6_init_23 : decode cX6_init 23 = .ok (.putfield 16, 3) := by decide +kernel
theorem dX6_init_26 : decode cX6_init 26 = .ok (.aload_n 0, 1) := by decide +kernel
theorem dX6_init_27 : decode cX6_init 27 = .ok (.new 19, 3) := by decide +kernel
theorem dX6_init_30 : decode cX6_init 30 = .ok (.dup, 1) := by decide +kernel
theorem dX6_init_31 : decode cX6_init 31 = .ok (.invokespecial 21, 3) := by decide +kernel
theorem dX6_init_34 : decode cX6_init 34 = .ok (.putfield 22, 3) := by decide +kernel
theorem dX6_init_37 : decode cX6_init 37 = .ok (.aload_n 0, 1) := by decide +kernel
theorem dX6_init_38 : decode cX6_init 38 = .ok (.new 26, 3) := by decide +kernel
theorem dX6_init_41 : decode cX6_init 41 = .ok (.dup, 1) := by decide +kernel
theorem dX6_init_42 : decode cX6_init 42 = .ok (.invokespecial 28, 3) := by decide +kernel
theorem dX6_init_45 : decode cX6_init 45 = .ok (.putfield 29, 3) := by decide +kernel
theorem dX6_init_48 : decode cX6_init 48 = .ok (.return_, 1) := by decide +kernel
set_option maxRecDepth 20000 in
theorem ggX6_assemble_X6_isPlace : GoodIn wsX6_assemble wsX6_isPlace := goodIn_r _ [11, 12, 13, 10, 14] (by decide +kernel) (by decide +kernel)
set_option maxRecDepth 20000 in
theorem gX6_assemble_X6_isPlace : GoodIn wsX6_assemble (va_wsS RX6 33 yX6_isPlace wsX6_isPlace) := goodIn_app (goodIn_of _ (by decide +kernel)) ggX6_assemble_X6_isPlace
set_option maxRecDepth 20000 in
theorem ggX6_assemble_X4_findFault : GoodIn wsX6_assemble wsX4_findFault := goodIn_r _ [19, 20, 21, 22, 23, 24, 25, 26, 18, 27, 28, 29, 30, 31, 32, 33, 34, 35, 36, 37, 38, 39, 40, 41, 42, 43, 44, 45, 46, 47, 48, 49, 50, 51, 52, 53, 54, 55, 56, 57, 58, 59, 60, 61, 62, 63, 64, 65, 66, 67, 68, 69, 70, 71, 72, 73, 74, 75, 76, 77, 78, 79, 80, 81, 82, 83, 84, 85, 86, 87, 88, 89, 90, 91, 92, 93, 94, 95, 96, 97, 98, 99, 100, 101, 102, 103, 104, 105, 106, 107, 108, 109, 110, 111, 112, 113, 114, 115, 116, 117, 118, 119, 120, 121, 122, 123, 124, 125, 126, 127, 128, 129, 130, 131, 132, 133, 134, 135, 13, 10, 14, 136, 137, 138, 139, 140, 141, 142, 143, 144, 145, 146, 147, 148, 149, 150, 151, 152, 153, 154, 155, 156, 223, 224, 225, 226, 227, 228, 238, 239] (by decide +kernel) (by decide +kernel)
set_option maxRecDepth 20000 in
theorem gX6_assemble_X4_findFault : GoodIn wsX6_assemble (wsV RX6 38 RX4 yX4_findFault wsX4_findFault) := goodIn_app (goodIn_of _ (by decide +kernel)) ggX6_assemble_X4_findFault
set_option maxRecDepth 20000 in
theorem ggX6_assemble_X1_remember : GoodIn wsX6_assemble wsX1_remember := goodIn_r _ [161, 162, 163, 164, 165, 62, 59, 63, 166, 167, 168, 169, 170, 171, 172, 173, 174, 175, 176, 177, 178, 179, 180, 181, 182, 183, 184, 185, 186, 187, 188, 189, 190, 191, 192, 193, 194, 195, 196, 197, 198, 199, 200, 201, 202, 203, 204, 205, 206, 207, 208, 209, 210, 211, 212, 213, 214, 215, 216, 217, 240, 241, 242, 229, 230, 231, 232, 233, 234, 235, 236, 237, 243, 244, 245, 246, 247, 248, 249, 250, 251, 252, 253, 238, 239, 254, 255, 256] (by decide +kernel) (by decide +kernel)
set_option maxRecDepth 20000 in
theorem gX6_assemble_X1_remember : GoodIn wsX6_assemble (wsV RX6 49 RX1 yX1_remember wsX1_remember) := goodIn_app (goodIn_of _ (by decide +kernel)) ggX6_assemble_X1_remember
set_option maxRecDepth 20000 in
theorem ggX6_assemble_X2_copyRows : GoodIn wsX6_assemble wsX2_copyRows := goodIn_r _ [205, 206, 207, 175, 176, 177, 208, 238, 239] (by decide +kernel) (by decide +kernel)
set_option maxRecDepth 20000 in
theorem gX6_assemble_X2_copyRows : GoodIn wsX6_assemble (wsV RX6 60 RX2 yX2_copyRows wsX2_copyRows) := goodIn_app (goodIn_of _ (by decide +kernel)) ggX6_assemble_X2_copyRows
theorem dX6_assemble_0 : decode cX6_assemble 0 = .ok (.iload_n 1, 1) := by decide +kernel
theorem dX6_assemble_1 : decode cX6_assemble 1 = .ok (.invokestatic 33, 3) := by decide +kernel
theorem dX6_assemble_4 : decode cX6_assemble 4 = .ok (.ifCond .ne 6, 3) := by decide +kernel
theorem dX6_assemble_7 : decode cX6_assemble 7 = .ok (.ldc 37, 2) := by decide +kernel
theorem dX6_assemble_9 : decode cX6_assemble 9 = .ok (.ireturn, 1) := by decide +kernel
theorem dX6_assemble_10 : decode cX6_assemble 10 = .ok (.aload_n 0, 1) := by decide +kernel
theorem dX6_assemble_11 : decode cX6_assemble 11 = .ok (.getfield 29, 3) := by decide +kernel
theorem dX6_assemble_14 : decode cX6_assemble 14 = .ok (.invokevirtual 38, 3) := by decide +kernel
theorem dX6_assemble_17 : decode cX6_assemble 17 = .ok (.ldc 42, 2) := by decide +kernel
theorem dX6_assemble_19 : decode cX6_assemble 19 = .ok (.if_icmp .eq 6, 3) := by decide +kernel
theorem dX6_assemble_22 : decode cX6_assemble 22 = .ok (.ldc 43, 2) := by decide +kernel
theorem dX6_assemble_24 : decode cX6_assemble 24 = .ok (.ireturn, 1) := by decide +kernel
theorem dX6_assemble_25 : decode cX6_assemble 25 = .ok (.aload_n 0, 1) := by decide +kernel
theorem dX6_assemble_26 : decode cX6_assemble 26 = .ok (.getfield 29, 3) := by decide +kernel
theorem dX6_assemble_29 : decode cX6_assemble 29 = .ok (.getfield 44, 3) := by decide +kernel
theorem dX6_assemble_32 : decode cX6_assemble 32 = .ok (.istore_n 2, 1) := by decide +kernel
theorem dX6_assemble_33 : decode cX6_assemble 33 = .ok (.iload_n 1, 1) := by decide +kernel
theorem dX6_assemble_34 : decode cX6_assemble 34 = .ok (.iload_n 2, 1) := by decide +kernel
theorem dX6_assemble_35 : decode cX6_assemble 35 = .ok (.iadd, 1) := by decide +kernel
theorem dX6_assemble_36 : decode cX6_assemble 36 = .ok (.bipush 48, 2) := by decide +kernel
theorem dX6_assemble_38 : decode cX6_assemble 38 = .ok (.if_icmp .le 6, 3) := by decide +kernel
theorem dX6_assemble_41 : decode cX6_assemble 41 = .ok (.ldc 48, 2) := by decide +kernel
theorem dX6_assemble_43 : decode cX6_assemble 43 = .ok (.ireturn, 1) := by decide +kernel
theorem dX6_assemble_44 : decode cX6_assemble 44 = .ok (.aload_n 0, 1) := by decide +kernel
theorem dX6_assemble_45 : decode cX6_assemble 45 = .ok (.getfield 22, 3) := by decide +kernel
theorem dX6_assemble_48 : decode cX6_assemble 48 = .ok (.aload_n 0, 1) := by decide +kernel
theorem dX6_assemble_49 : decode cX6_assemble 49 = .ok (.getfield 10, 3) := by decide +kernel
theorem dX6_assemble_52 : decode cX6_assemble 52 = .ok (.invokevirtual 49, 3) := by decide +kernel
theorem dX6_assemble_55 : decode cX6_assemble 55 = .ok (.aload_n 0, 1) := by decide +kernel
theorem dX6_assemble_56 : decode cX6_assemble 56 = .ok (.getfield 10, 3) := by decide +kernel
theorem dX6_assemble_59 : decode cX6_assemble 59 = .ok (.getfield 53, 3) := by decide +kernel
theorem dX6_assemble_62 : decode cX6_assemble 62 = .ok (.aload_n 0, 1) := by decide +kernel
theorem dX6_assemble_63 : decode cX6_assemble 63 = .ok (.getfield 29, 3) := by decide +kernel
theorem dX6_assemble_66 : decode cX6_assemble 66 = .ok (.getfield 57, 3) := by decide +kernel
theorem dX6_assemble_69 : decode cX6_assemble 69 = .ok (.iload_n 2, 1) := by decide +kernel
theorem dX6_assemble_70 : decode cX6_assemble 70 = .ok (.iload_n 1, 1) := by decide +kernel
theorem dX6_assemble_71 : decode cX6_assemble 71 = .ok (.invokevirtual 60, 3) := by decide +kernel
theorem dX6_assemble_74 : decode cX6_assemble 74 = .ok (.iload_n 2, 1) := by decide +kernel
theorem dX6_assemble_75 : decode cX6_assemble 75 = .ok (.ireturn, 1) := by decide +kernel
set_option maxRecDepth 20000 in
theorem ggX6_start_X6_isThread : GoodIn wsX6_start wsX6_isThread := goodIn_r _ [7, 8, 9, 6, 10] (by decide +kernel) (by decide +kernel)
set_option maxRecDepth 20000 in
theorem gX6_start_X6_isThread : GoodIn wsX6_start (va_wsS RX6 66 yX6_isThread wsX6_isThread) := goodIn_app (goodIn_of _ (by decide +kernel)) ggX6_start_X6_isThread
set_option maxRecDepth 20000 in
theorem ggX6_start_X6_isPlace : GoodIn wsX6_start wsX6_isPlace := goodIn_r _ [13, 8, 9, 6, 10] (by decide +kernel) (by decide +kernel)
set_option maxRecDepth 20000 in
theorem gX6_start_X6_isPlace : GoodIn wsX6_start (va_wsS RX6 33 yX6_isPlace wsX6_isPlace) := goodIn_app (goodIn_of _ (by decide +kernel)) ggX6_start_X6_isPlace
set_option maxRecDepth 20000 in
theorem ggX6_start_X1_remember : GoodIn wsX6_start wsX1_remember := goodIn_r _ [18, 19, 20, 21, 22, 23, 24, 25, 26, 27, 28, 29, 30, 31, 32, 33, 34, 35, 36, 37, 38, 39, 40, 41, 42, 43, 44, 45, 46, 47, 48, 49, 50, 51, 52, 53, 54, 55, 56, 57, 58, 59, 60, 61, 62, 63, 64, 65, 66, 67, 68, 69, 70, 71, 72, 73, 74, 75, 76, 77, 110, 111, 112, 90, 91, 92, 93, 94, 95, 96, 97, 98, 99, 100, 101, 102, 103, 104, 105, 106, 107, 108, 109, 113, 114, 115, 116, 117] (by decide +kernel) (by decide +kernel)
set_option maxRecDepth 20000 in
theorem gX6_start_X1_remember : GoodIn wsX6_start (wsV RX6 49 RX1 yX1_remember wsX1_remember) := goodIn_app (goodIn_of _ (by decide +kernel)) ggX6_start_X1_remember
set_option maxRecDepth 20000 in
theorem ggX6_start_X0_startAt : GoodIn wsX6_start wsX0_startAt := goodIn_r _ [81, 49, 51, 52, 56, 59, 82, 83, 84, 85, 99, 100, 101, 102, 103, 104, 105, 106, 107, 108, 109] (by decide +kernel) (by decide +kernel)
set_option maxRecDepth 20000 in
theorem gX6_start_X0_startAt : GoodIn wsX6_start (wsV RX6 78 RX0 yX0_startAt wsX0_startAt) := goodIn_app (goodIn_of _ (by decide +kernel)) ggX6_start_X0_startAt
theorem dX6_start_0 : decode cX6_start 0 = .ok (.iload_n 1, 1) := by decide +kernel
theorem dX6_start_1 : decode cX6_start 1 = .ok (.invokestatic 66, 3) := by decide +kernel
theorem dX6_start_4 : decode cX6_start 4 = .ok (.ifCond .eq 10, 3) := by decide +kernel
theorem dX6_start_7 : decode cX6_start 7 = .ok (.iload_n 2, 1) := by decide +kernel
theorem dX6_start_8 : decode cX6_start 8 = .ok (.invokestatic 33, 3) := by decide +kernel
theorem dX6_start_11 : decode cX6_start 11 = .ok (.ifCond .ne 6, 3) := by decide +kernel
theorem dX6_start_14 : decode cX6_start 14 = .ok (.ldc 37, 2) := by decide +kernel
theorem dX6_start_16 : decode cX6_start 16 = .ok (.ireturn, 1) := by decide +kernel
theorem dX6_start_17 : decode cX6_start 17 = .ok (.aload_n 0, 1) := by decide +kernel
theorem dX6_start_18 : decode cX6_start 18 = .ok (.getfield 22, 3) := by decide +kernel
theorem dX6_start_21 : decode cX6_start 21 = .ok (.aload_n 0, 1) := by decide +kernel
theorem dX6_start_22 : decode cX6_start 22 = .ok (.getfield 10, 3) := by decide +kernel
theorem dX6_start_25 : decode cX6_start 25 = .ok (.invokevirtual 49, 3) := by decide +kernel
theorem dX6_start_28 : decode cX6_start 28 = .ok (.aload_n 0, 1) := by decide +kernel
theorem dX6_start_29 : decode cX6_start 29 = .ok (.getfield 10, 3) := by decide +kernel
theorem dX6_start_32 : decode cX6_start 32 = .ok (.getfield 69, 3) := by decide +kernel
theorem dX6_start_35 : decode cX6_start 35 = .ok (.iload_n 1, 1) := by decide +kernel
theorem dX6_start_36 : decode cX6_start 36 = .ok (.aaload, 1) := by decide +kernel
theorem dX6_start_37 : decode cX6_start 37 = .ok (.getfield 73, 3) := by decide +kernel
theorem dX6_start_40 : decode cX6_start 40 = .ok (.istore_n 3, 1) := by decide +kernel
theorem dX6_start_41 : decode cX6_start 41 = .ok (.aload_n 0, 1) := by decide +kernel
theorem dX6_start_42 : decode cX6_start 42 = .ok (.getfield 10, 3) := by decide +kernel
theorem dX6_start_45 : decode cX6_start 45 = .ok (.getfield 69, 3) := by decide +kernel
theorem dX6_start_48 : decode cX6_start 48 = .ok (.iload_n 1, 1) := by decide +kernel
theorem dX6_start_49 : decode cX6_start 49 = .ok (.aaload, 1) := by decide +kernel
theorem dX6_start_50 : decode cX6_start 50 = .ok (.iload_n 2, 1) := by decide +kernel
theorem dX6_start_51 : decode cX6_start 51 = .ok (.invokevirtual 78, 3) := by decide +kernel
theorem dX6_start_54 : decode cX6_start 54 = .ok (.iload_n 3, 1) := by decide +kernel
theorem dX6_start_55 : decode cX6_start 55 = .ok (.ireturn, 1) := by decide +kernel
set_option maxRecDepth 20000 in
theorem ggX6_halt_X6_isThread : GoodIn wsX6_halt wsX6_isThread := goodIn_r _ [7, 8, 9, 6, 10] (by decide +kernel) (by decide +kernel)
set_option maxRecDepth 20000 in
theorem gX6_halt_X6_isThread : GoodIn wsX6_halt (va_wsS RX6 66 yX6_isThread wsX6_isThread) := goodIn_app (goodIn_of _ (by decide +kernel)) ggX6_halt_X6_isThread
set_option maxRecDepth 20000 in
theorem ggX6_halt_X1_remember : GoodIn wsX6_halt wsX1_remember := goodIn_r _ [15, 16, 17, 18, 19, 20, 21, 22, 23, 24, 25, 26, 27, 28, 29, 30, 31, 32, 33, 34, 35, 36, 37, 38, 39, 40, 41, 42, 43, 44, 45, 46, 47, 48, 49, 50, 51, 52, 53, 54, 55, 56, 57, 58, 59, 60, 61, 62, 63, 64, 65, 66, 67, 68, 69, 70, 71, 72, 73, 74, 103, 104, 105, 83, 84, 85, 86, 87, 88, 89, 90, 91, 92, 93, 94, 95, 96, 97, 98, 99, 100, 101, 102, 106, 107, 108, 109, 110] (by decide +kernel) (by decide +kernel)
set_option maxRecDepth 20000 in
theorem gX6_halt_X1_remember : GoodIn wsX6_halt (wsV RX6 49 RX1 yX1_remember wsX1_remember) := goodIn_app (goodIn_of _ (by decide +kernel)) ggX6_halt_X1_remember
set_option maxRecDepth 20000 in
theorem ggX6_halt_X0_haltNow : GoodIn wsX6_halt wsX0_haltNow := goodIn_r _ [78, 48, 56, 92, 93, 94, 95, 96, 97, 98, 99, 100, 101, 102] (by decide +kernel) (by decide +kernel)
set_option maxRecDepth 20000 in
theorem gX6_halt_X0_haltNow : GoodIn wsX6_halt (wsV RX6 82 RX0 yX0_haltNow wsX0_haltNow) := goodIn_app (goodIn_of _ (by decide +kernel)) ggX6_halt_X0_haltNow
theorem dX6_halt_0 : decode cX6_halt 0 = .ok (.iload_n 1, 1) := by decide +kernel
theorem dX6_halt_1 : decode cX6_halt 1 = .ok (.invokestatic 66, 3) := by decide +kernel
theorem dX6_halt_4 : decode cX6_halt 4 = .ok (.ifCond .ne 6, 3) := by decide +kernel
theorem dX6_halt_7 : decode cX6_halt 7 = .ok (.ldc 37, 2) := by decide +kernel
theorem dX6_halt_9 : decode cX6_halt 9 = .ok (.ireturn, 1) := by decide +kernel
theorem dX6_halt_10 : decode cX6_halt 10 = .ok (.aload_n 0, 1) := by decide +kernel
theorem dX6_halt_11 : decode cX6_halt 11 = .ok (.getfield 22, 3) := by decide +kernel
theorem dX6_halt_14 : decode cX6_halt 14 = .ok (.aload_n 0, 1) := by decide +kernel
theorem dX6_halt_15 : decode cX6_halt 15 = .ok (.getfield 10, 3) := by decide +kernel
theorem dX6_halt_18 : decode cX6_halt 18 = .ok (.invokevirtual 49, 3) := by decide +kernel
theorem dX6_halt_21 : decode cX6_halt 21 = .ok (.aload_n 0, 1) := by decide +kernel
theorem dX6_halt_22 : decode cX6_halt 22 = .ok (.getfield 10, 3) := by decide +kernel
theorem dX6_halt_25 : decode cX6_halt 25 = .ok (.getfield 69, 3) := by decide +kernel
theorem dX6_halt_28 : decode cX6_halt 28 = .ok (.iload_n 1, 1) := by decide +kernel
theorem dX6_halt_29 : decode cX6_halt 29 = .ok (.aaload, 1) := by decide +kernel
theorem dX6_halt_30 : decode cX6_halt 30 = .ok (.getfield 73, 3) := by decide +kernel
theorem dX6_halt_33 : decode cX6_halt 33 = .ok (.istore_n 2, 1) := by decide +kernel
theorem dX6_halt_34 : decode cX6_halt 34 = .ok (.aload_n 0, 1) := by decide +kernel
theorem dX6_halt_35 : decode cX6_halt 35 = .ok (.getfield 10, 3) := by decide +kernel
theorem dX6_halt_38 : decode cX6_halt 38 = .ok (.getfield 69, 3) := by decide +kernel
theorem dX6_halt_41 : decode cX6_halt 41 = .ok (.iload_n 1, 1) := by decide +kernel
theorem dX6_halt_42 : decode cX6_halt 42 = .ok (.aaload, 1) := by decide +kernel
theorem dX6_halt_43 : decode cX6_halt 43 = .ok (.invokevirtual 82, 3) := by decide +kernel
theorem dX6_halt_46 : decode cX6_halt 46 = .ok (.iload_n 2, 1) := by decide +kernel
theorem dX6_halt_47 : decode cX6_halt 47 = .ok (.ireturn, 1) := by decide +kernel
set_option maxRecDepth 20000 in
theorem ggX6_setRegister_X6_isThread : GoodIn wsX6_setRegister wsX6_isThread := goodIn_r _ [8, 9, 10, 7, 11] (by decide +kernel) (by decide +kernel)
set_option maxRecDepth 20000 in
theorem gX6_setRegister_X6_isThread : GoodIn wsX6_setRegister (va_wsS RX6 66 yX6_isThread wsX6_isThread) := goodIn_app (goodIn_of _ (by decide +kernel)) ggX6_setRegister_X6_isThread
set_option maxRecDepth 20000 in
theorem ggX6_setRegister_X6_isRegister : GoodIn wsX6_setRegister wsX6_isRegister := goodIn_r _ [14, 9, 10, 7, 11] (by decide +kernel) (by decide +kernel)
set_option maxRecDepth 20000 in
theorem gX6_setRegister_X6_isRegister : GoodIn wsX6_setRegister (va_wsS RX6 85 yX6_isRegister wsX6_isRegister) := goodIn_app (goodIn_of _ (by decide +kernel)) ggX6_setRegister_X6_isRegister
set_option maxRecDepth 20000 in
theorem ggX6_setRegister_X6_isValue : GoodIn wsX6_setRegister wsX6_isValue := goodIn_r _ [17, 9, 10, 7, 11] (by decide +kernel) (by decide +kernel)
set_option maxRecDepth 20000 in
theorem gX6_setRegister_X6_isValue : GoodIn wsX6_setRegister (va_wsS RX6 88 yX6_isValue wsX6_isValue) := goodIn_app (goodIn_of _ (by decide +kernel)) ggX6_setRegister_X6_isValue
set_option maxRecDepth 20000 in
theorem ggX6_setRegister_X1_remember : GoodIn wsX6_setRegister wsX1_remember := goodIn_r _ [22, 23, 24, 25, 26, 27, 28, 29, 30, 31, 32, 33, 34, 35, 36, 37, 38, 39, 40, 41, 42, 43, 44, 45, 46, 47, 48, 49, 50, 51, 52, 53, 54, 55, 56, 57, 58, 59, 60, 61, 62, 63, 64, 65, 66, 67, 68, 69, 70, 71, 72, 73, 74, 75, 76, 77, 78, 79, 80, 81, 109, 110, 111, 89, 90, 91, 92, 93, 94, 95, 96, 97, 98, 99, 100, 101, 102, 103, 104, 105, 106, 107, 108, 112, 113, 114, 115, 116] (by decide +kernel) (by decide +kernel)
set_option maxRecDepth 20000 in
theorem gX6_setRegister_X1_remember : GoodIn wsX6_setRegister (wsV RX6 49 RX1 yX1_remember wsX1_remember) := goodIn_app (goodIn_of _ (by decide +kernel)) ggX6_setRegister_X1_remember
set_option maxRecDepth 20000 in
theorem ggX6_setRegister_X6_replace : GoodIn wsX6_setRegister wsX6_replace := goodIn_r _ [84] (by decide +kernel) (by decide +kernel)
set_option maxRecDepth 20000 in
theorem gX6_setRegister_X6_replace : GoodIn wsX6_setRegister (va_wsS RX6 96 yX6_replace wsX6_replace) := goodIn_app (goodIn_of _ (by decide +kernel)) ggX6_setRegister_X6_replace
theorem dX6_setRegister_0 : decode cX6_setRegister 0 = .ok (.iload_n 1, 1) := by decide +kernel
theorem dX6_setRegister_1 : decode cX6_setRegister 1 = .ok (.invokestatic 66, 3) := by decide +kernel
theorem dX6_setRegister_4 : decode cX6_setRegister 4 = .ok (.ifCond .eq 10, 3) := by decide +kernel
theorem dX6_setRegister_7 : decode cX6_setRegister 7 = .ok (.iload_n 2, 1) := by decide +kernel
theorem dX6_setRegister_8 : decode cX6_setRegister 8 = .ok (.invokestatic 85, 3) := by decide +kernel
theorem dX6_setRegister_11 : decode cX6_setRegister 11 = .ok (.ifCond .ne 6, 3) := by decide +kernel
theorem dX6_setRegister_14 : decode cX6_setRegister 14 = .ok (.ldc 37, 2) := by decide +kernel
theorem dX6_setRegister_16 : decode cX6_setRegister 16 = .ok (.ireturn, 1) := by decide +kernel
theorem dX6_setRegister_17 : decode cX6_setRegister 17 = .ok (.iload_n 3, 1) := by decide +kernel
theorem dX6_setRegister_18 : decode cX6_setRegister 18 = .ok (.invokestatic 88, 3) := by decide +kernel
theorem dX6_setRegister_21 : decode cX6_setRegister 21 = .ok (.ifCond .ne 6, 3) := by decide +kernel
theorem dX6_setRegister_24 : decode cX6_setRegister 24 = .ok (.ldc 91, 2) := by decide +kernel
theorem dX6_setRegister_26 : decode cX6_setRegister 26 = .ok (.ireturn, 1) := by decide +kernel
theorem dX6_setRegister_27 : decode cX6_setRegister 27 = .ok (.aload_n 0, 1) := by decide +kernel
theorem dX6_setRegister_28 : decode cX6_setRegister 28 = .ok (.getfield 22, 3) := by decide +kernel
theorem dX6_setRegister_31 : decode cX6_setRegister 31 = .ok (.aload_n 0, 1) := by decide +kernel
theorem dX6_setRegister_32 : decode cX6_setRegister 32 = .ok (.getfield 10, 3) := by decide +kernel
theorem dX6_setRegister_35 : decode cX6_setRegister 35 = .ok (.invokevirtual 49, 3) := by decide +kernel
theorem dX6_setRegister_38 : decode cX6_setRegister 38 = .ok (.aload_n 0, 1) := by decide +kernel
theorem dX6_setRegister_39 : decode cX6_setRegister 39 = .ok (.getfield 10, 3) := by decide +kernel
theorem dX6_setRegister_42 : decode cX6_setRegister 42 = .ok (.getfield 69, 3) := by decide +kernel
theorem dX6_setRegister_45 : decode cX6_setRegister 45 = .ok (.iload_n 1, 1) := by decide +kernel
theorem dX6_setRegister_46 : decode cX6_setRegister 46 = .ok (.aaload, 1) := by decide +kernel
theorem dX6_setRegister_47 : decode cX6_setRegister 47 = .ok (.getfield 92, 3) := by decide +kernel
theorem dX6_setRegister_50 : decode cX6_setRegister 50 = .ok (.iload_n 2, 1) := by decide +kernel
theorem dX6_setRegister_51 : decode cX6_setRegister 51 = .ok (.iload_n 3, 1) := by decide +kernel
theorem dX6_setRegister_52 : decode cX6_setRegister 52 = .ok (.invokestatic 96, 3) := by decide +kernel
theorem dX6_setRegister_55 : decode cX6_setRegister 55 = .ok (.ireturn, 1) := by decide +kernel
set_option maxRecDepth 20000 in
theorem ggX6_setWord_X6_isWord : GoodIn wsX6_setWord wsX6_isWord := goodIn_r _ [8, 9, 10, 7, 11] (by decide +kernel) (by decide +kernel)
set_option maxRecDepth 20000 in
theorem gX6_setWord_X6_isWord : GoodIn wsX6_setWord (va_wsS RX6 100 yX6_isWord wsX6_isWord) := goodIn_app (goodIn_of _ (by decide +kernel)) ggX6_setWord_X6_isWord
set_option maxRecDepth 20000 in
theorem ggX6_setWord_X6_isValue : GoodIn wsX6_setWord wsX6_isValue := goodIn_r _ [14, 9, 10, 7, 11] (by decide +kernel) (by decide +kernel)
set_option maxRecDepth 20000 in
theorem gX6_setWord_X6_isValue : GoodIn wsX6_setWord (va_wsS RX6 88 yX6_isValue wsX6_isValue) := goodIn_app (goodIn_of _ (by decide +kernel)) ggX6_setWord_X6_isValue
set_option maxRecDepth 20000 in
theorem ggX6_setWord_X1_remember : GoodIn wsX6_setWord wsX1_remember := goodIn_r _ [19, 20, 21, 22, 23, 24, 25, 26, 27, 28, 29, 30, 31, 32, 33, 34, 35, 36, 37, 38, 39, 40, 41, 42, 43, 44, 45, 46, 47, 48, 49, 50, 51, 52, 53, 54, 55, 56, 57, 58, 59, 60, 61, 62, 63, 64, 65, 66, 67, 68, 69, 70, 71, 72, 73, 74, 75, 76, 77, 78, 95, 96, 97, 86, 87, 88, 89, 90, 91, 92, 93, 94, 98, 99, 100, 101, 102, 103, 104, 105, 106, 107, 108, 109, 110, 111, 112, 113] (by decide +kernel) (by decide +kernel)
set_option maxRecDepth 20000 in
theorem gX6_setWord_X1_remember : GoodIn wsX6_setWord (wsV RX6 49 RX1 yX1_remember wsX1_remember) := goodIn_app (goodIn_of _ (by decide +kernel)) ggX6_setWord_X1_remember
set_option maxRecDepth 20000 in
theorem ggX6_setWord_X6_replace : GoodIn wsX6_setWord wsX6_replace := goodIn_r _ [81] (by decide +kernel) (by decide +kernel)
set_option maxRecDepth 20000 in
theorem gX6_setWord_X6_replace : GoodIn wsX6_setWord (va_wsS RX6 96 yX6_replace wsX6_replace) := goodIn_app (goodIn_of _ (by decide +kernel)) ggX6_setWord_X6_replace
theorem dX6_setWord_0 : decode cX6_setWord 0 = .ok (.iload_n 1, 1) := by decide +kernel
theorem dX6_setWord_1 : decode cX6_setWord 1 = .ok (.invokestatic 100, 3) := by decide +kernel
theorem dX6_setWord_4 : decode cX6_setWord 4 = .ok (.ifCond .ne 6, 3) := by decide +kernel
theorem dX6_setWord_7 : decode cX6_setWord 7 = .ok (.ldc 37, 2) := by decide +kernel
theorem dX6_setWord_9 : decode cX6_setWord 9 = .ok (.ireturn, 1) := by decide +kernel
theorem dX6_setWord_10 : decode cX6_setWord 10 = .ok (.iload_n 2, 1) := by decide +kernel
theorem dX6_setWord_11 : decode cX6_setWord 11 = .ok (.invokestatic 88, 3) := by decide +kernel
theorem dX6_setWord_14 : decode cX6_setWord 14 = .ok (.ifCond .ne 6, 3) := by decide +kernel
theorem dX6_setWord_17 : decode cX6_setWord 17 = .ok (.ldc 91, 2) := by decide +kernel
theorem dX6_setWord_19 : decode cX6_setWord 19 = .ok (.ireturn, 1) := by decide +kernel
theorem dX6_setWord_20 : decode cX6_setWord 20 = .ok (.aload_n 0, 1) := by decide +kernel
theorem dX6_setWord_21 : decode cX6_setWord 21 = .ok (.getfield 22, 3) := by decide +kernel
theorem dX6_setWord_24 : decode cX6_setWord 24 = .ok (.aload_n 0, 1) := by decide +kernel
theorem dX6_setWord_25 : decode cX6_setWord 25 = .ok (.getfield 10, 3) := by decide +kernel
theorem dX6_setWord_28 : decode cX6_setWord 28 = .ok (.invokevirtual 49, 3) := by decide +kernel
theorem dX6_setWord_31 : decode cX6_setWord 31 = .ok (.aload_n 0, 1) := by decide +kernel
theorem dX6_setWord_32 : decode cX6_setWord 32 = .ok (.getfield 10, 3) := by decide +kernel
theorem dX6_setWord_35 : decode cX6_setWord 35 = .ok (.getfield 103, 3) := by decide +kernel
theorem dX6_setWord_38 : decode cX6_setWord 38 = .ok (.iload_n 1, 1) := by decide +kernel
theorem dX6_setWord_39 : decode cX6_setWord 39 = .ok (.iload_n 2, 1) := by decide +kernel
theorem dX6_setWord_40 : decode cX6_setWord 40 = .ok (.invokestatic 96, 3) := by decide +kernel
theorem dX6_setWord_43 : decode cX6_setWord 43 = .ok (.ireturn, 1) := by decide +kernel
set_option maxRecDepth 20000 in
theorem ggX6_setSlot_X6_isSlot : GoodIn wsX6_setSlot wsX6_isSlot := goodIn_r _ [7, 8, 9, 6, 10] (by decide +kernel) (by decide +kernel)
set_option maxRecDepth 20000 in
theorem gX6_setSlot_X6_isSlot : GoodIn wsX6_setSlot (va_wsS RX6 106 yX6_isSlot wsX6_isSlot) := goodIn_app (goodIn_of _ (by decide +kernel)) ggX6_setSlot_X6_isSlot
set_option maxRecDepth 20000 in
theorem ggX6_setSlot_X6_isThread : GoodIn wsX6_setSlot wsX6_isThread := goodIn_r _ [13, 8, 9, 6, 10] (by decide +kernel) (by decide +kernel)
set_option maxRecDepth 20000 in
theorem gX6_setSlot_X6_isThread : GoodIn wsX6_setSlot (va_wsS RX6 66 yX6_isThread wsX6_isThread) := goodIn_app (goodIn_of _ (by decide +kernel)) ggX6_setSlot_X6_isThread
set_option maxRecDepth 20000 in
theorem ggX6_setSlot_X1_remember : GoodIn wsX6_setSlot wsX1_remember := goodIn_r _ [18, 19, 20, 21, 22, 23, 24, 25, 26, 27, 28, 29, 30, 31, 32, 33, 34, 35, 36, 37, 38, 39, 40, 41, 42, 43, 44, 45, 46, 47, 48, 49, 50, 51, 52, 53, 54, 55, 56, 57, 58, 59, 60, 61, 62, 63, 64, 65, 66, 67, 68, 69, 70, 71, 72, 73, 74, 75, 76, 77, 94, 95, 96, 85, 86, 87, 88, 89, 90, 91, 92, 93, 97, 98, 99, 100, 101, 102, 103, 104, 105, 106, 107, 108, 109, 110, 111, 112] (by decide +kernel) (by decide +kernel)
set_option maxRecDepth 20000 in
theorem gX6_setSlot_X1_remember : GoodIn wsX6_setSlot (wsV RX6 49 RX1 yX1_remember wsX1_remember) := goodIn_app (goodIn_of _ (by decide +kernel)) ggX6_setSlot_X1_remember
set_option maxRecDepth 20000 in
theorem ggX6_setSlot_X6_replace : GoodIn wsX6_setSlot wsX6_replace := goodIn_r _ [80] (by decide +kernel) (by decide +kernel)
set_option maxRecDepth 20000 in
theorem gX6_setSlot_X6_replace : GoodIn wsX6_setSlot (va_wsS RX6 96 yX6_replace wsX6_replace) := goodIn_app (goodIn_of _ (by decide +kernel)) ggX6_setSlot_X6_replace
theorem dX6_setSlot_0 : decode cX6_setSlot 0 = .ok (.iload_n 1, 1) := by decide +kernel
theorem dX6_setSlot_1 : decode cX6_setSlot 1 = .ok (.invokestatic 106, 3) := by decide +kernel
theorem dX6_setSlot_4 : decode cX6_setSlot 4 = .ok (.ifCond .eq 10, 3) := by decide +kernel
theorem dX6_setSlot_7 : decode cX6_setSlot 7 = .ok (.iload_n 2, 1) := by decide +kernel
theorem dX6_setSlot_8 : decode cX6_setSlot 8 = .ok (.invokestatic 66, 3) := by decide +kernel
theorem dX6_setSlot_11 : decode cX6_setSlot 11 = .ok (.ifCond .ne 6, 3) := by decide +kernel
theorem dX6_setSlot_14 : decode cX6_setSlot 14 = .ok (.ldc 37, 2) := by decide +kernel
theorem dX6_setSlot_16 : decode cX6_setSlot 16 = .ok (.ireturn, 1) := by decide +kernel
theorem dX6_setSlot_17 : decode cX6_setSlot 17 = .ok (.aload_n 0, 1) := by decide +kernel
theorem dX6_setSlot_18 : decode cX6_setSlot 18 = .ok (.getfield 22, 3) := by decide +kernel
theorem dX6_setSlot_21 : decode cX6_setSlot 21 = .ok (.aload_n 0, 1) := by decide +kernel
theorem dX6_setSlot_22 : decode cX6_setSlot 22 = .ok (.getfield 10, 3) := by decide +kernel
theorem dX6_setSlot_25 : decode cX6_setSlot 25 = .ok (.invokevirtual 49, 3) := by decide +kernel
theorem dX6_setSlot_28 : decode cX6_setSlot 28 = .ok (.aload_n 0, 1) := by decide +kernel
theorem dX6_setSlot_29 : decode cX6_setSlot 29 = .ok (.getfield 10, 3) := by decide +kernel
theorem dX6_setSlot_32 : decode cX6_setSlot 32 = .ok (.getfield 109, 3) := by decide +kernel
theorem dX6_setSlot_35 : decode cX6_setSlot 35 = .ok (.iload_n 1, 1) := by decide +kernel
theorem dX6_setSlot_36 : decode cX6_setSlot 36 = .ok (.iload_n 2, 1) := by decide +kernel
theorem dX6_setSlot_37 : decode cX6_setSlot 37 = .ok (.invokestatic 96, 3) := by decide +kernel
theorem dX6_setSlot_40 : decode cX6_setSlot 40 = .ok (.ireturn, 1) := by decide +kernel
set_option maxRecDepth 20000 in
theorem ggX6_set_X6_isSetting : GoodIn wsX6_set wsX6_isSetting := goodIn_r _ [8, 9, 10, 7, 11] (by decide +kernel) (by decide +kernel)
set_option maxRecDepth 20000 in
theorem gX6_set_X6_isSetting : GoodIn wsX6_set (va_wsS RX6 112 yX6_isSetting wsX6_isSetting) := goodIn_app (goodIn_of _ (by decide +kernel)) ggX6_set_X6_isSetting
set_option maxRecDepth 20000 in
theorem ggX6_set_X6_isWithin : GoodIn wsX6_set wsX6_isWithin := goodIn_r _ [11] (by decide +kernel) (by decide +kernel)
set_option maxRecDepth 20000 in
theorem gX6_set_X6_isWithin : GoodIn wsX6_set (va_wsS RX6 115 yX6_isWithin wsX6_isWithin) := goodIn_app (goodIn_of _ (by decide +kernel)) ggX6_set_X6_isWithin
set_option maxRecDepth 20000 in
theorem ggX6_set_X1_remember : GoodIn wsX6_set wsX1_remember := goodIn_r _ [16, 17, 18, 19, 20, 21, 22, 23, 24, 25, 26, 27, 28, 29, 30, 31, 32, 33, 34, 35, 36, 37, 38, 39, 40, 41, 42, 43, 44, 45, 46, 47, 48, 49, 50, 51, 52, 53, 54, 55, 56, 57, 58, 59, 60, 61, 62, 63, 64, 65, 66, 67, 68, 69, 70, 71, 72, 73, 74, 75, 92, 93, 94, 83, 84, 85, 86, 87, 88, 89, 90, 91, 95, 96, 97, 98, 99, 100, 101, 102, 103, 104, 105, 106, 107, 108, 109, 110] (by decide +kernel) (by decide +kernel)
set_option maxRecDepth 20000 in
theorem gX6_set_X1_remember : GoodIn wsX6_set (wsV RX6 49 RX1 yX1_remember wsX1_remember) := goodIn_app (goodIn_of _ (by decide +kernel)) ggX6_set_X1_remember
set_option maxRecDepth 20000 in
theorem ggX6_set_X6_replace : GoodIn wsX6_set wsX6_replace := goodIn_r _ [78] (by decide +kernel) (by decide +kernel)
set_option maxRecDepth 20000 in
theorem gX6_set_X6_replace : GoodIn wsX6_set (va_wsS RX6 96 yX6_replace wsX6_replace) := goodIn_app (goodIn_of _ (by decide +kernel)) ggX6_set_X6_replace
theorem dX6_set_0 : decode cX6_set 0 = .ok (.iload_n 1, 1) := by decide +kernel
theorem dX6_set_1 : decode cX6_set 1 = .ok (.invokestatic 112, 3) := by decide +kernel
theorem dX6_set_4 : decode cX6_set 4 = .ok (.ifCond .ne 6, 3) := by decide +kernel
theorem dX6_set_7 : decode cX6_set 7 = .ok (.ldc 37, 2) := by decide +kernel
theorem dX6_set_9 : decode cX6_set 9 = .ok (.ireturn, 1) := by decide +kernel
theorem dX6_set_10 : decode cX6_set 10 = .ok (.iload_n 2, 1) := by decide +kernel
theorem dX6_set_11 : decode cX6_set 11 = .ok (.iconst 0, 1) := by decide +kernel
theorem dX6_set_12 : decode cX6_set 12 = .ok (.iload_n 1, 1) := by decide +kernel
theorem dX6_set_13 : decode cX6_set 13 = .ok (.ifCond .ne 8, 3) := by decide +kernel
theorem dX6_set_16 : decode cX6_set 16 = .ok (.bipush 20, 2) := by decide +kernel
theorem dX6_set_18 : decode cX6_set 18 = .ok (.goto 4, 3) := by decide +kernel
theorem dX6_set_21 : decode cX6_set 21 = .ok (.iconst 2, 1) := by decide +kernel
theorem dX6_set_22 : decode cX6_set 22 = .ok (.invokestatic 115, 3) := by decide +kernel
theorem dX6_set_25 : decode cX6_set 25 = .ok (.ifCond .ne 6, 3) := by decide +kernel
theorem dX6_set_28 : decode cX6_set 28 = .ok (.ldc 91, 2) := by decide +kernel
theorem dX6_set_30 : decode cX6_set 30 = .ok (.ireturn, 1) := by decide +kernel
theorem dX6_set_31 : decode cX6_set 31 = .ok (.aload_n 0, 1) := by decide +kernel
theorem dX6_set_32 : decode cX6_set 32 = .ok (.getfield 22, 3) := by decide +kernel
theorem dX6_set_35 : decode cX6_set 35 = .ok (.aload_n 0, 1) := by decide +kernel
theorem dX6_set_36 : decode cX6_set 36 = .ok (.getfield 10, 3) := by decide +kernel
theorem dX6_set_39 : decode cX6_set 39 = .ok (.invokevirtual 49, 3) := by decide +kernel
theorem dX6_set_42 : decode cX6_set 42 = .ok (.aload_n 0, 1) := by decide +kernel
theorem dX6_set_43 : decode cX6_set 43 = .ok (.getfield 10, 3) := by decide +kernel
theorem dX6_set_46 : decode cX6_set 46 = .ok (.getfield 119, 3) := by decide +kernel
theorem dX6_set_49 : decode cX6_set 49 = .ok (.iload_n 1, 1) := by decide +kernel
theorem dX6_set_50 : decode cX6_set 50 = .ok (.iload_n 2, 1) := by decide +kernel
theorem dX6_set_51 : decode cX6_set 51 = .ok (.invokestatic 96, 3) := by decide +kernel
theorem dX6_set_54 : decode cX6_set 54 = .ok (.ireturn, 1) := by decide +kernel
set_option maxRecDepth 20000 in
theorem ggX6_setBreakpoint_X6_isPlace : GoodIn wsX6_setBreakpoint wsX6_isPlace := goodIn_r _ [7, 8, 9, 6, 10] (by decide +kernel) (by decide +kernel)
set_option maxRecDepth 20000 in
theorem gX6_setBreakpoint_X6_isPlace : GoodIn wsX6_setBreakpoint (va_wsS RX6 33 yX6_isPlace wsX6_isPlace) := goodIn_app (goodIn_of _ (by decide +kernel)) ggX6_setBreakpoint_X6_isPlace
set_option maxRecDepth 20000 in
theorem ggX6_setBreakpoint_X1_remember : GoodIn wsX6_setBreakpoint wsX1_remember := goodIn_r _ [15, 16, 17, 18, 19, 20, 21, 22, 23, 24, 25, 26, 27, 28, 29, 30, 31, 32, 33, 34, 35, 36, 37, 38, 39, 40, 41, 42, 43, 44, 45, 46, 47, 48, 49, 50, 51, 52, 53, 54, 55, 56, 57, 58, 59, 60, 61, 62, 63, 64, 65, 66, 67, 68, 69, 70, 71, 72, 73, 74, 92, 93, 94, 83, 84, 85, 86, 87, 88, 89, 90, 91, 95, 96, 97, 98, 99, 100, 101, 102, 103, 104, 105, 106, 107, 108, 109, 110] (by decide +kernel) (by decide +kernel)
set_option maxRecDepth 20000 in
theorem gX6_setBreakpoint_X1_remember : GoodIn wsX6_setBreakpoint (wsV RX6 49 RX1 yX1_remember wsX1_remember) := goodIn_app (goodIn_of _ (by decide +kernel)) ggX6_setBreakpoint_X1_remember
set_option maxRecDepth 20000 in
theorem ggX6_setBreakpoint_X3_countBreakpoints : GoodIn wsX6_setBreakpoint wsX3_countBreakpoints := goodIn_r _ [78, 30, 83, 84, 85, 86, 87, 88, 89, 90, 91] (by decide +kernel) (by decide +kernel)
set_option maxRecDepth 20000 in
theorem gX6_setBreakpoint_X3_countBreakpoints : GoodIn wsX6_setBreakpoint (wsV RX6 125 RX3 yX3_countBreakpoints wsX3_countBreakpoints) := goodIn_app (goodIn_of _ (by decide +kernel)) ggX6_setBreakpoint_X3_countBreakpoints
theorem dX6_setBreakpoint_0 : decode cX6_setBreakpoint 0 = .ok (.iload_n 1, 1) := by decide +kernel
theorem dX6_setBreakpoint_1 : decode cX6_setBreakpoint 1 = .ok (.invokestatic 33, 3) := by decide +kernel
theorem dX6_setBreakpoint_4 : decode cX6_setBreakpoint 4 = .ok (.ifCond .ne 6, 3) := by decide +kernel
theorem dX6_setBreakpoint_7 : decode cX6_setBreakpoint 7 = .ok (.ldc 37, 2) := by decide +kernel
theorem dX6_setBreakpoint_9 : decode cX6_setBreakpoint 9 = .ok (.ireturn, 1) := by decide +kernel
theorem dX6_setBreakpoint_10 : decode cX6_setBreakpoint 10 = .ok (.aload_n 0, 1) := by decide +kernel
theorem dX6_setBreakpoint_11 : decode cX6_setBreakpoint 11 = .ok (.getfield 22, 3) := by decide +kernel
theorem dX6_setBreakpoint_14 : decode cX6_setBreakpoint 14 = .ok (.aload_n 0, 1) := by decide +kernel
theorem dX6_setBreakpoint_15 : decode cX6_setBreakpoint 15 = .ok (.getfield 10, 3) := by decide +kernel
theorem dX6_setBreakpoint_18 : decode cX6_setBreakpoint 18 = .ok (.invokevirtual 49, 3) := by decide +kernel
theorem dX6_setBreakpoint_21 : decode cX6_setBreakpoint 21 = .ok (.aload_n 0, 1) := by decide +kernel
theorem dX6_setBreakpoint_22 : decode cX6_setBreakpoint 22 = .ok (.getfield 10, 3) := by decide +kernel
theorem dX6_setBreakpoint_25 : decode cX6_setBreakpoint 25 = .ok (.getfield 122, 3) := by decide +kernel
theorem dX6_setBreakpoint_28 : decode cX6_setBreakpoint 28 = .ok (.iload_n 1, 1) := by decide +kernel
theorem dX6_setBreakpoint_29 : decode cX6_setBreakpoint 29 = .ok (.iload_n 2, 1) := by decide +kernel
theorem dX6_setBreakpoint_30 : decode cX6_setBreakpoint 30 = .ok (.ifCond .eq 7, 3) := by decide +kernel
theorem dX6_setBreakpoint_33 : decode cX6_setBreakpoint 33 = .ok (.iconst 1, 1) := by decide +kernel
theorem dX6_setBreakpoint_34 : decode cX6_setBreakpoint 34 = .ok (.goto 4, 3) := by decide +kernel
theorem dX6_setBreakpoint_37 : decode cX6_setBreakpoint 37 = .ok (.iconst 0, 1) := by decide +kernel
theorem dX6_setBreakpoint_38 : decode cX6_setBreakpoint 38 = .ok (.iastore, 1) := by decide +kernel
theorem dX6_setBreakpoint_39 : decode cX6_setBreakpoint 39 = .ok (.aload_n 0, 1) := by decide +kernel
theorem dX6_setBreakpoint_40 : decode cX6_setBreakpoint 40 = .ok (.getfield 10, 3) := by decide +kernel
theorem dX6_setBreakpoint_43 : decode cX6_setBreakpoint 43 = .ok (.invokevirtual 125, 3) := by decide +kernel
theorem dX6_setBreakpoint_46 : decode cX6_setBreakpoint 46 = .ok (.ireturn, 1) := by decide +kernel
set_option maxRecDepth 20000 in
theorem ggX6_run_X6_isWithin : GoodIn wsX6_run wsX6_isWithin := goodIn_r _ [7] (by decide +kernel) (by decide +kernel)
set_option maxRecDepth 20000 in
theorem gX6_run_X6_isWithin : GoodIn wsX6_run (va_wsS RX6 115 yX6_isWithin wsX6_isWithin) := goodIn_app (goodIn_of _ (by decide +kernel)) ggX6_run_X6_isWithin
set_option maxRecDepth 20000 in
theorem ggX6_run_X1_remember : GoodIn wsX6_run wsX1_remember := goodIn_r _ [12, 13, 14, 15, 16, 17, 18, 19, 20, 21, 22, 23, 24, 25, 26, 27, 28, 29, 30, 31, 32, 33, 34, 35, 36, 37, 38, 39, 40, 41, 42, 43, 44, 45, 46, 47, 48, 49, 50, 51, 52, 53, 54, 55, 56, 57, 58, 59, 60, 61, 62, 63, 64, 65, 66, 67, 68, 69, 70, 71, 173, 174, 175, 176, 177, 178, 179, 180, 181, 182, 183, 184, 185, 186, 187, 188, 189, 190, 191, 192, 193, 194, 195, 196, 197, 198, 199, 200] (by decide +kernel) (by decide +kernel)
set_option maxRecDepth 20000 in
theorem gX6_run_X1_remember : GoodIn wsX6_run (wsV RX6 49 RX1 yX1_remember wsX1_remember) := goodIn_app (goodIn_of _ (by decide +kernel)) ggX6_run_X1_remember
set_option maxRecDepth 20000 in
theorem ggX6_run_X3_runToBreakpoint : GoodIn wsX6_run wsX3_runToBreakpoint := goodIn_r _ [75, 76, 77, 78, 23, 79, 25, 80, 81, 82, 83, 27, 84, 85, 86, 87, 34, 88, 89, 90, 91, 92, 36, 93, 94, 95, 96, 97, 98, 99, 41, 100, 45, 49, 101, 102, 103, 104, 33, 105, 106, 107, 108, 109, 110, 111, 112, 113, 114, 115, 6, 116, 4, 5, 7, 117, 118, 119, 120, 121, 122, 37, 123, 124, 125, 126, 32, 127, 128, 129, 130, 131, 132, 133, 134, 135, 136, 137, 138, 53, 54, 139, 140, 18, 141, 142, 143, 144, 145, 35, 146, 147, 148, 66, 149, 70, 68, 71, 150, 17, 19, 151, 152, 153, 154, 26, 155, 156, 157, 158, 159, 160, 161, 162, 163, 164, 165, 47, 48, 166, 167, 168, 176, 177, 178, 179, 180, 181, 182, 183, 184, 185, 186, 187, 188, 189, 190, 191, 192, 193, 194, 195, 198, 199, 200, 196, 197] (by decide +kernel) (by decide +kernel)
set_option maxRecDepth 20000 in
theorem gX6_run_X3_runToBreakpoint : GoodIn wsX6_run (wsV RX6 128 RX3 yX3_runToBreakpoint wsX3_runToBreakpoint) := goodIn_app (goodIn_of _ (by decide +kernel)) ggX6_run_X3_runToBreakpoint
theorem dX6_run_0 : decode cX6_run 0 = .ok (.iload_n 1, 1) := by decide +kernel
theorem dX6_run_1 : decode cX6_run 1 = .ok (.iconst 1, 1) := by decide +kernel
theorem dX6_run_2 : decode cX6_run 2 = .ok (.sipush 200, 3) := by decide +kernel
theorem dX6_run_5 : decode cX6_run 5 = .ok (.invokestatic 115, 3) := by decide +kernel
theorem dX6_run_8 : decode cX6_run 8 = .ok (.ifCond .ne 6, 3) := by decide +kernel
theorem dX6_run_11 : decode cX6_run 11 = .ok (.ldc 91, 2) := by decide +kernel
theorem dX6_run_13 : decode cX6_run 13 = .ok (.ireturn, 1) := by decide +kernel
theorem dX6_run_14 : decode cX6_run 14 = .ok (.aload_n 0, 1) := by decide +kernel
theorem dX6_run_15 : decode cX6_run 15 = .ok (.getfield 22, 3) := by decide +kernel
theorem dX6_run_18 : decode cX6_run 18 = .ok (.aload_n 0, 1) := by decide +kernel
theorem dX6_run_19 : decode cX6_run 19 = .ok (.getfield 10, 3) := by decide +kernel
theorem dX6_run_22 : decode cX6_run 22 = .ok (.invokevirtual 49, 3) := by decide +kernel
theorem dX6_run_25 : decode cX6_run 25 = .ok (.aload_n 0, 1) := by decide +kernel
theorem dX6_run_26 : decode cX6_run 26 = .ok (.getfield 10, 3) := by decide +kernel
theorem dX6_run_29 : decode cX6_run 29 = .ok (.iload_n 1, 1) := by decide +kernel
theorem dX6_run_30 : decode cX6_run 30 = .ok (.invokevirtual 128, 3) := by decide +kernel
theorem dX6_run_33 : decode cX6_run 33 = .ok (.ireturn, 1) := by decide +kernel
set_option maxRecDepth 20000 in
theorem ggX6_append_X6_isWithin : GoodIn wsX6_append wsX6_isWithin := goodIn_r _ [7] (by decide +kernel) (by decide +kernel)
set_option maxRecDepth 20000 in
theorem gX6_append_X6_isWithin : GoodIn wsX6_append (va_wsS RX6 115 yX6_isWithin wsX6_isWithin) := goodIn_app (goodIn_of _ (by decide +kernel)) ggX6_append_X6_isWithin
set_option maxRecDepth 20000 in
theorem ggX6_append_X4_add : GoodIn wsX6_append wsX4_add := goodIn_r _ [12, 13, 14, 19, 20, 21, 22, 23, 24] (by decide +kernel) (by decide +kernel)
set_option maxRecDepth 20000 in
theorem gX6_append_X4_add : GoodIn wsX6_append (wsV RX6 135 RX4 yX4_add wsX4_add) := goodIn_app (goodIn_of _ (by decide +kernel)) ggX6_append_X4_add
theorem dX6_append_0 : decode cX6_append 0 = .ok (.iload_n 1, 1) := by decide +kernel
theorem dX6_append_1 : decode cX6_append 1 = .ok (.bipush 32, 2) := by decide +kernel
theorem dX6_append_3 : decode cX6_append 3 = .ok (.bipush 126, 2) := by decide +kernel
theorem dX6_append_5 : decode cX6_append 5 = .ok (.invokestatic 115, 3) := by decide +kernel
theorem dX6_append_8 : decode cX6_append 8 = .ok (.ifCond .ne 6, 3) := by decide +kernel
theorem dX6_append_11 : decode cX6_append 11 = .ok (.ldc 91, 2) := by decide +kernel
theorem dX6_append_13 : decode cX6_append 13 = .ok (.ireturn, 1) := by decide +kernel
theorem dX6_append_14 : decode cX6_append 14 = .ok (.aload_n 0, 1) := by decide +kernel
theorem dX6_append_15 : decode cX6_append 15 = .ok (.getfield 29, 3) := by decide +kernel
theorem dX6_append_18 : decode cX6_append 18 = .ok (.getfield 132, 3) := by decide +kernel
theorem dX6_append_21 : decode cX6_append 21 = .ok (.bipush 100, 2) := by decide +kernel
theorem dX6_append_23 : decode cX6_append 23 = .ok (.if_icmp .lt 6, 3) := by decide +kernel
theorem dX6_append_26 : decode cX6_append 26 = .ok (.ldc 48, 2) := by decide +kernel
theorem dX6_append_28 : decode cX6_append 28 = .ok (.ireturn, 1) := by decide +kernel
theorem dX6_append_29 : decode cX6_append 29 = .ok (.aload_n 0, 1) := by decide +kernel
theorem dX6_append_30 : decode cX6_append 30 = .ok (.getfield 29, 3) := by decide +kernel
theorem dX6_append_33 : decode cX6_append 33 = .ok (.iload_n 1, 1) := by decide +kernel
theorem dX6_append_34 : decode cX6_append 34 = .ok (.i2c, 1) := by decide +kernel
theorem dX6_append_35 : decode cX6_append 35 = .ok (.invokevirtual 135, 3) := by decide +kernel
theorem dX6_append_38 : decode cX6_append 38 = .ok (.aload_n 0, 1) := by decide +kernel
theorem dX6_append_39 : decode cX6_append 39 = .ok (.getfield 29, 3) := by decide +kernel
theorem dX6_append_42 : decode cX6_append 42 = .ok (.getfield 132, 3) := by decide +kernel
theorem dX6_append_45 : decode cX6_append 45 = .ok (.ireturn, 1) := by decide +kernel
theorem dX6_clearText_0 : decode cX6_clearText 0 = .ok (.aload_n 0, 1) := by decide +kernel
theorem dX6_clearText_1 : decode cX6_clearText 1 = .ok (.getfield 29, 3) := by decide +kernel
theorem dX6_clearText_4 : decode cX6_clearText 4 = .ok (.getfield 132, 3) := by decide +kernel
theorem dX6_clearText_7 : decode cX6_clearText 7 = .ok (.istore_n 1, 1) := by decide +kernel
theorem dX6_clearText_8 : decode cX6_clearText 8 = .ok (.aload_n 0, 1) := by decide +kernel
theorem dX6_clearText_9 : decode cX6_clearText 9 = .ok (.getfield 29, 3) := by decide +kernel
theorem dX6_clearText_12 : decode cX6_clearText 12 = .ok (.iconst 0, 1) := by decide +kernel
theorem dX6_clearText_13 : decode cX6_clearText 13 = .ok (.putfield 132, 3) := by decide +kernel
theorem dX6_clearText_16 : decode cX6_clearText 16 = .ok (.iload_n 1, 1) := by decide +kernel
theorem dX6_clearText_17 : decode cX6_clearText 17 = .ok (.ireturn, 1) := by decide +kernel
set_option maxRecDepth 20000 in
theorem ggX6_fault_X4_findFault : GoodIn wsX6_fault wsX4_findFault := goodIn_r _ [6, 7, 8, 9, 10, 11, 12, 13, 5, 14, 15, 16, 17, 18, 19, 20, 21, 22, 23, 24, 25, 26, 27, 28, 29, 30, 31, 32, 33, 34, 35, 36, 37, 38, 39, 40, 41, 42, 43, 44, 45, 46, 47, 48, 49, 50, 51, 52, 53, 54, 55, 56, 57, 58, 59, 60, 61, 62, 63, 64, 65, 66, 67, 68, 69, 70, 71, 72, 73, 74, 75, 76, 77, 78, 79, 80, 81, 82, 83, 84, 85, 86, 87, 88, 89, 90, 91, 92, 93, 94, 95, 96, 97, 98, 99, 100, 101, 102, 103, 104, 105, 106, 107, 108, 109, 110, 111, 112, 113, 114, 115, 116, 117, 118, 119, 120, 121, 122, 123, 124, 125, 126, 127, 128, 129, 130, 131, 132, 133, 134, 135, 136, 137, 138, 139, 140, 141, 142, 143, 144, 145, 146, 151, 152, 153, 154, 155, 156, 157, 158] (by decide +kernel) (by decide +kernel)
set_option maxRecDepth 20000 in
theorem gX6_fault_X4_findFault : GoodIn wsX6_fault (wsV RX6 38 RX4 yX4_findFault wsX4_findFault) := goodIn_app (goodIn_of _ (by decide +kernel)) ggX6_fault_X4_findFault
theorem dX6_fault_0 : decode cX6_fault 0 = .ok (.aload_n 0, 1) := by decide +kernel
theorem dX6_fault_1 : decode cX6_fault 1 = .ok (.getfield 29, 3) := by decide +kernel
theorem dX6_fault_4 : decode cX6_fault 4 = .ok (.invokevirtual 38, 3) := by decide +kernel
theorem dX6_fault_7 : decode cX6_fault 7 = .ok (.ireturn, 1) := by decide +kernel
set_option maxRecDepth 20000 in
theorem ggX6_undo_X1_restore : GoodIn wsX6_undo wsX1_restore := goodIn_r _ [7, 8, 9, 10, 11, 12, 13, 14, 15, 16, 17, 18, 19, 20, 21, 22, 23, 24, 25, 26, 27, 28, 29, 30, 31, 32, 33, 34, 35, 36, 37, 38, 39, 40, 41, 42, 43, 44, 45, 46, 47, 48, 49, 50, 51, 52, 53, 54, 55, 56, 57, 58, 59, 60, 61, 62, 63, 68, 69, 70, 71, 72, 73, 74, 75, 76, 77, 78, 79, 80, 81, 82, 83, 84, 85, 86, 87, 88, 89, 90, 91, 92, 93, 94, 95] (by decide +kernel) (by decide +kernel)
set_option maxRecDepth 20000 in
theorem gX6_undo_X1_restore : GoodIn wsX6_undo (wsV RX6 139 RX1 yX1_restore wsX1_restore) := goodIn_app (goodIn_of _ (by decide +kernel)) ggX6_undo_X1_restore
theorem dX6_undo_0 : decode cX6_undo 0 = .ok (.aload_n 0, 1) := by decide +kernel
theorem dX6_undo_1 : decode cX6_undo 1 = .ok (.getfield 22, 3) := by decide +kernel
theorem dX6_undo_4 : decode cX6_undo 4 = .ok (.aload_n 0, 1) := by decide +kernel
theorem dX6_undo_5 : decode cX6_undo 5 = .ok (.getfield 10, 3) := by decide +kernel
theorem dX6_undo_8 : decode cX6_undo 8 = .ok (.invokevirtual 139, 3) := by decide +kernel
theorem dX6_undo_11 : decode cX6_undo 11 = .ok (.ireturn, 1) := by decide +kernel
set_option maxRecDepth 20000 in
theorem ggX6_state_X6_isThread : GoodIn wsX6_state wsX6_isThread := goodIn_r _ [6, 7, 8, 5, 9] (by decide +kernel) (by decide +kernel)
set_option maxRecDepth 20000 in
theorem gX6_state_X6_isThread : GoodIn wsX6_state (va_wsS RX6 66 yX6_isThread wsX6_isThread) := goodIn_app (goodIn_of _ (by decide +kernel)) ggX6_state_X6_isThread
theorem dX6_state_0 : decode cX6_state 0 = .ok (.iload_n 1, 1) := by decide +kernel
theorem dX6_state_1 : decode cX6_state 1 = .ok (.invokestatic 66, 3) := by decide +kernel
theorem dX6_state_4 : decode cX6_state 4 = .ok (.ifCond .eq 18, 3) := by decide +kernel
theorem dX6_state_7 : decode cX6_state 7 = .ok (.aload_n 0, 1) := by decide +kernel
theorem dX6_state_8 : decode cX6_state 8 = .ok (.getfield 10, 3) := by decide +kernel
theorem dX6_state_11 : decode cX6_state 11 = .ok (.getfield 69, 3) := by decide +kernel
theorem dX6_state_14 : decode cX6_state 14 = .ok (.iload_n 1, 1) := by decide +kernel
theorem dX6_state_15 : decode cX6_state 15 = .ok (.aaload, 1) := by decide +kernel
theorem dX6_state_16 : decode cX6_state 16 = .ok (.getfield 73, 3) := by decide +kernel
theorem dX6_state_19 : decode cX6_state 19 = .ok (.goto 5, 3) := by decide +kernel
theorem dX6_state_22 : decode cX6_state 22 = .ok (.ldc 37, 2) := by decide +kernel
theorem dX6_state_24 : decode cX6_state 24 = .ok (.ireturn, 1) := by decide +kernel
set_option maxRecDepth 20000 in
theorem ggX6_programCounter_X6_isThread : GoodIn wsX6_programCounter wsX6_isThread := goodIn_r _ [6, 7, 8, 5, 9] (by decide +kernel) (by decide +kernel)
set_option maxRecDepth 20000 in
theorem gX6_programCounter_X6_isThread : GoodIn wsX6_programCounter (va_wsS RX6 66 yX6_isThread wsX6_isThread) := goodIn_app (goodIn_of _ (by decide +kernel)) ggX6_programCounter_X6_isThread
theorem dX6_programCounter_0 : decode cX6_programCounter 0 = .ok (.iload_n 1, 1) := by decide +kernel
theorem dX6_programCounter_1 : decode cX6_programCounter 1 = .ok (.invokestatic 66, 3) := by decide +kernel
theorem dX6_programCounter_4 : decode cX6_programCounter 4 = .ok (.ifCond .eq 18, 3) := by decide +kernel
theorem dX6_programCounter_7 : decode cX6_programCounter 7 = .ok (.aload_n 0, 1) := by decide +kernel
theorem dX6_programCounter_8 : decode cX6_programCounter 8 = .ok (.getfield 10, 3) := by decide +kernel
theorem dX6_programCounter_11 : decode cX6_programCounter 11 = .ok (.getfield 69, 3) := by decide +kernel
theorem dX6_programCounter_14 : decode cX6_programCounter 14 = .ok (.iload_n 1, 1) := by decide +kernel
theorem dX6_programCounter_15 : decode cX6_programCounter 15 = .ok (.aaload, 1) := by decide +kernel
theorem dX6_programCounter_16 : decode cX6_programCounter 16 = .ok (.getfield 143, 3) := by decide +kernel
theorem dX6_programCounter_19 : decode cX6_programCounter 19 = .ok (.goto 5, 3) := by decide +kernel
theorem dX6_programCounter_22 : decode cX6_programCounter 22 = .ok (.ldc 37, 2) := by decide +kernel
theorem dX6_programCounter_24 : decode cX6_programCounter 24 = .ok (.ireturn, 1) := by decide +kernel
set_option maxRecDepth 20000 in
theorem ggX6_register_X6_isThread : GoodIn wsX6_register wsX6_isThread := goodIn_r _ [6, 7, 8, 5, 9] (by decide +kernel) (by decide +kernel)
set_option maxRecDepth 20000 in
theorem gX6_register_X6_isThread : GoodIn wsX6_register (va_wsS RX6 66 yX6_isThread wsX6_isThread) := goodIn_app (goodIn_of _ (by decide +kernel)) ggX6_register_X6_isThread
set_option maxRecDepth 20000 in
theorem ggX6_register_X6_isRegister : GoodIn wsX6_register wsX6_isRegister := goodIn_r _ [12, 7, 8, 5, 9] (by decide +kernel) (by decide +kernel)
set_option maxRecDepth 20000 in
theorem gX6_register_X6_isRegister : GoodIn wsX6_register (va_wsS RX6 85 yX6_isRegister wsX6_isRegister) := goodIn_app (goodIn_of _ (by decide +kernel)) ggX6_register_X6_isRegister
theorem dX6_register_0 : decode cX6_register 0 = .ok (.iload_n 1, 1) := by decide +kernel
theorem dX6_register_1 : decode cX6_register 1 = .ok (.invokestatic 66, 3) := by decide +kernel
theorem dX6_register_4 : decode cX6_register 4 = .ok (.ifCond .eq 10, 3) := by decide +kernel
theorem dX6_register_7 : decode cX6_register 7 = .ok (.iload_n 2, 1) := by decide +kernel
theorem dX6_register_8 : decode cX6_register 8 = .ok (.invokestatic 85, 3) := by decide +kernel
theorem dX6_register_11 : decode cX6_register 11 = .ok (.ifCond .ne 6, 3) := by decide +kernel
theorem dX6_register_14 : decode cX6_register 14 = .ok (.ldc 37, 2) := by decide +kernel
theorem dX6_register_16 : decode cX6_register 16 = .ok (.ireturn, 1) := by decide +kernel
theorem dX6_register_17 : decode cX6_register 17 = .ok (.aload_n 0, 1) := by decide +kernel
theorem dX6_register_18 : decode cX6_register 18 = .ok (.getfield 10, 3) := by decide +kernel
theorem dX6_register_21 : decode cX6_register 21 = .ok (.getfield 69, 3) := by decide +kernel
theorem dX6_register_24 : decode cX6_register 24 = .ok (.iload_n 1, 1) := by decide +kernel
theorem dX6_register_25 : decode cX6_register 25 = .ok (.aaload, 1) := by decide +kernel
theorem dX6_register_26 : decode cX6_register 26 = .ok (.getfield 92, 3) := by decide +kernel
theorem dX6_register_29 : decode cX6_register 29 = .ok (.iload_n 2, 1) := by decide +kernel
theorem dX6_register_30 : decode cX6_register 30 = .ok (.iaload, 1) := by decide +kernel
theorem dX6_register_31 : decode cX6_register 31 = .ok (.ireturn, 1) := by decide +kernel
set_option maxRecDepth 20000 in
theorem ggX6_word_X6_isWord : GoodIn wsX6_word wsX6_isWord := goodIn_r _ [6, 7, 8, 5, 9] (by decide +kernel) (by decide +kernel)
set_option maxRecDepth 20000 in
theorem gX6_word_X6_isWord : GoodIn wsX6_word (va_wsS RX6 100 yX6_isWord wsX6_isWord) := goodIn_app (goodIn_of _ (by decide +kernel)) ggX6_word_X6_isWord
theorem dX6_word_0 : decode cX6_word 0 = .ok (.iload_n 1, 1) := by decide +kernel
theorem dX6_word_1 : decode cX6_word 1 = .ok (.invokestatic 100, 3) := by decide +kernel
theorem dX6_word_4 : decode cX6_word 4 = .ok (.ifCond .eq 15, 3) := by decide +kernel
theorem dX6_word_7 : decode cX6_word 7 = .ok (.aload_n 0, 1) := by decide +kernel
theorem dX6_word_8 : decode cX6_word 8 = .ok (.getfield 10, 3) := by decide +kernel
theorem dX6_word_11 : decode cX6_word 11 = .ok (.getfield 103, 3) := by decide +kernel
theorem dX6_word_14 : decode cX6_word 14 = .ok (.iload_n 1, 1) := by decide +kernel
theorem dX6_word_15 : decode cX6_word 15 = .ok (.iaload, 1) := by decide +kernel
theorem dX6_word_16 : decode cX6_word 16 = .ok (.goto 5, 3) := by decide +kernel
theorem dX6_word_19 : decode cX6_word 19 = .ok (.ldc 37, 2) := by decide +kernel
theorem dX6_word_21 : decode cX6_word 21 = .ok (.ireturn, 1) := by decide +kernel
set_option maxRecDepth 20000 in
theorem ggX6_operation_X6_isPlace : GoodIn wsX6_operation wsX6_isPlace := goodIn_r _ [6, 7, 8, 5, 9] (by decide +kernel) (by decide +kernel)
set_option maxRecDepth 20000 in
theorem gX6_operation_X6_isPlace : GoodIn wsX6_operation (va_wsS RX6 33 yX6_isPlace wsX6_isPlace) := goodIn_app (goodIn_of _ (by decide +kernel)) ggX6_operation_X6_isPlace
theorem dX6_operation_0 : decode cX6_operation 0 = .ok (.iload_n 1, 1) := by decide +kernel
theorem dX6_operation_1 : decode cX6_operation 1 = .ok (.invokestatic 33, 3) := by decide +kernel
theorem dX6_operation_4 : decode cX6_operation 4 = .ok (.ifCond .eq 18, 3) := by decide +kernel
theorem dX6_operation_7 : decode cX6_operation 7 = .ok (.aload_n 0, 1) := by decide +kernel
theorem dX6_operation_8 : decode cX6_operation 8 = .ok (.getfield 10, 3) := by decide +kernel
theorem dX6_operation_11 : decode cX6_operation 11 = .ok (.getfield 53, 3) := by decide +kernel
theorem dX6_operation_14 : decode cX6_operation 14 = .ok (.getfield 146, 3) := by decide +kernel
theorem dX6_operation_17 : decode cX6_operation 17 = .ok (.iload_n 1, 1) := by decide +kernel
theorem dX6_operation_18 : decode cX6_operation 18 = .ok (.iaload, 1) := by decide +kernel
theorem dX6_operation_19 : decode cX6_operation 19 = .ok (.goto 5, 3) := by decide +kernel
theorem dX6_operation_22 : decode cX6_operation 22 = .ok (.ldc 37, 2) := by decide +kernel
theorem dX6_operation_24 : decode cX6_operation 24 = .ok (.ireturn, 1) := by decide +kernel
set_option maxRecDepth 20000 in
theorem ggX6_operand_X6_isPlace : GoodIn wsX6_operand wsX6_isPlace := goodIn_r _ [7, 8, 9, 6, 10] (by decide +kernel) (by decide +kernel)
set_option maxRecDepth 20000 in
theorem gX6_operand_X6_isPlace : GoodIn wsX6_operand (va_wsS RX6 33 yX6_isPlace wsX6_isPlace) := goodIn_app (goodIn_of _ (by decide +kernel)) ggX6_operand_X6_isPlace
set_option maxRecDepth 20000 in
theorem ggX6_operand_X6_isWithin : GoodIn wsX6_operand wsX6_isWithin := goodIn_r _ [10] (by decide +kernel) (by decide +kernel)
set_option maxRecDepth 20000 in
theorem gX6_operand_X6_isWithin : GoodIn wsX6_operand (va_wsS RX6 115 yX6_isWithin wsX6_isWithin) := goodIn_app (goodIn_of _ (by decide +kernel)) ggX6_operand_X6_isWithin
theorem dX6_operand_0 : decode cX6_operand 0 = .ok (.iload_n 1, 1) := by decide +kernel
theorem dX6_operand_1 : decode cX6_operand 1 = .ok (.invokestatic 33, 3) := by decide +kernel
theorem dX6_operand_4 : decode cX6_operand 4 = .ok (.ifCond .ne 6, 3) := by decide +kernel
theorem dX6_operand_7 : decode cX6_operand 7 = .ok (.ldc 37, 2) := by decide +kernel
theorem dX6_operand_9 : decode cX6_operand 9 = .ok (.ireturn, 1) := by decide +kernel
theorem dX6_operand_10 : decode cX6_operand 10 = .ok (.iload_n 2, 1) := by decide +kernel
theorem dX6_operand_11 : decode cX6_operand 11 = .ok (.iconst 0, 1) := by decide +kernel
theorem dX6_operand_12 : decode cX6_operand 12 = .ok (.iconst 1, 1) := by decide +kernel
theorem dX6_operand_13 : decode cX6_operand 13 = .ok (.invokestatic 115, 3) := by decide +kernel
theorem dX6_operand_16 : decode cX6_operand 16 = .ok (.ifCond .ne 6, 3) := by decide +kernel
theorem dX6_operand_19 : decode cX6_operand 19 = .ok (.ldc 91, 2) := by decide +kernel
theorem dX6_operand_21 : decode cX6_operand 21 = .ok (.ireturn, 1) := by decide +kernel
theorem dX6_operand_22 : decode cX6_operand 22 = .ok (.aload_n 0, 1) := by decide +kernel
theorem dX6_operand_23 : decode cX6_operand 23 = .ok (.getfield 10, 3) := by decide +kernel
theorem dX6_operand_26 : decode cX6_operand 26 = .ok (.getfield 53, 3) := by decide +kernel
theorem dX6_operand_29 : decode cX6_operand 29 = .ok (.getfield 149, 3) := by decide +kernel
theorem dX6_operand_32 : decode cX6_operand 32 = .ok (.iload_n 1, 1) := by decide +kernel
theorem dX6_operand_33 : decode cX6_operand 33 = .ok (.iconst 2, 1) := by decide +kernel
theorem dX6_operand_34 : decode cX6_operand 34 = .ok (.imul, 1) := by decide +kernel
theorem dX6_operand_35 : decode cX6_operand 35 = .ok (.iload_n 2, 1) := by decide +kernel
theorem dX6_operand_36 : decode cX6_operand 36 = .ok (.iadd, 1) := by decide +kernel
theorem dX6_operand_37 : decode cX6_operand 37 = .ok (.iaload, 1) := by decide +kernel
theorem dX6_operand_38 : decode cX6_operand 38 = .ok (.ireturn, 1) := by decide +kernel
set_option maxRecDepth 20000 in
theorem ggX6_slot_X6_isSlot : GoodIn wsX6_slot wsX6_isSlot := goodIn_r _ [6, 7, 8, 5, 9] (by decide +kernel) (by decide +kernel)
set_option maxRecDepth 20000 in
theorem gX6_slot_X6_isSlot : GoodIn wsX6_slot (va_wsS RX6 106 yX6_isSlot wsX6_isSlot) := goodIn_app (goodIn_of _ (by decide +kernel)) ggX6_slot_X6_isSlot
theorem dX6_slot_0 : decode cX6_slot 0 = .ok (.iload_n 1, 1) := by decide +kernel
theorem dX6_slot_1 : decode cX6_slot 1 = .ok (.invokestatic 106, 3) := by decide +kernel
theorem dX6_slot_4 : decode cX6_slot 4 = .ok (.ifCond .eq 15, 3) := by decide +kernel
theorem dX6_slot_7 : decode cX6_slot 7 = .ok (.aload_n 0, 1) := by decide +kernel
theorem dX6_slot_8 : decode cX6_slot 8 = .ok (.getfield 10, 3) := by decide +kernel
theorem dX6_slot_11 : decode cX6_slot 11 = .ok (.getfield 109, 3) := by decide +kernel
theorem dX6_slot_14 : decode cX6_slot 14 = .ok (.iload_n 1, 1) := by decide +kernel
theorem dX6_slot_15 : decode cX6_slot 15 = .ok (.iaload, 1) := by decide +kernel
theorem dX6_slot_16 : decode cX6_slot 16 = .ok (.goto 5, 3) := by decide +kernel
theorem dX6_slot_19 : decode cX6_slot 19 = .ok (.ldc 37, 2) := by decide +kernel
theorem dX6_slot_21 : decode cX6_slot 21 = .ok (.ireturn, 1) := by decide +kernel
set_option maxRecDepth 20000 in
theorem ggX6_setting_X6_isSetting : GoodIn wsX6_setting wsX6_isSetting := goodIn_r _ [6, 7, 8, 5, 9] (by decide +kernel) (by decide +kernel)
set_option maxRecDepth 20000 in
theorem gX6_setting_X6_isSetting : GoodIn wsX6_setting (va_wsS RX6 112 yX6_isSetting wsX6_isSetting) := goodIn_app (goodIn_of _ (by decide +kernel)) ggX6_setting_X6_isSetting
theorem dX6_setting_0 : decode cX6_setting 0 = .ok (.iload_n 1, 1) := by decide +kernel
theorem dX6_setting_1 : decode cX6_setting 1 = .ok (.invokestatic 112, 3) := by decide +kernel
theorem dX6_setting_4 : decode cX6_setting 4 = .ok (.ifCond .eq 15, 3) := by decide +kernel
theorem dX6_setting_7 : decode cX6_setting 7 = .ok (.aload_n 0, 1) := by decide +kernel
theorem dX6_setting_8 : decode cX6_setting 8 = .ok (.getfield 10, 3) := by decide +kernel
theorem dX6_setting_11 : decode cX6_setting 11 = .ok (.getfield 119, 3) := by decide +kernel
theorem dX6_setting_14 : decode cX6_setting 14 = .ok (.iload_n 1, 1) := by decide +kernel
theorem dX6_setting_15 : decode cX6_setting 15 = .ok (.iaload, 1) := by decide +kernel
theorem dX6_setting_16 : decode cX6_setting 16 = .ok (.goto 5, 3) := by decide +kernel
theorem dX6_setting_19 : decode cX6_setting 19 = .ok (.ldc 37, 2) := by decide +kernel
theorem dX6_setting_21 : decode cX6_setting 21 = .ok (.ireturn, 1) := by decide +kernel
set_option maxRecDepth 20000 in
theorem ggX6_breakpoint_X6_isPlace : GoodIn wsX6_breakpoint wsX6_isPlace := goodIn_r _ [6, 7, 8, 5, 9] (by decide +kernel) (by decide +kernel)
set_option maxRecDepth 20000 in
theorem gX6_breakpoint_X6_isPlace : GoodIn wsX6_breakpoint (va_wsS RX6 33 yX6_isPlace wsX6_isPlace) := goodIn_app (goodIn_of _ (by decide +kernel)) ggX6_breakpoint_X6_isPlace
theorem dX6_breakpoint_0 : decode cX6_breakpoint 0 = .ok (.iload_n 1, 1) := by decide +kernel
theorem dX6_breakpoint_1 : decode cX6_breakpoint 1 = .ok (.invokestatic 33, 3) := by decide +kernel
theorem dX6_breakpoint_4 : decode cX6_breakpoint 4 = .ok (.ifCond .eq 15, 3) := by decide +kernel
theorem dX6_breakpoint_7 : decode cX6_breakpoint 7 = .ok (.aload_n 0, 1) := by decide +kernel
theorem dX6_breakpoint_8 : decode cX6_breakpoint 8 = .ok (.getfield 10, 3) := by decide +kernel
theorem dX6_breakpoint_11 : decode cX6_breakpoint 11 = .ok (.getfield 122, 3) := by decide +kernel
theorem dX6_breakpoint_14 : decode cX6_breakpoint 14 = .ok (.iload_n 1, 1) := by decide +kernel
theorem dX6_breakpoint_15 : decode cX6_breakpoint 15 = .ok (.iaload, 1) := by decide +kernel
theorem dX6_breakpoint_16 : decode cX6_breakpoint 16 = .ok (.goto 5, 3) := by decide +kernel
theorem dX6_breakpoint_19 : decode cX6_breakpoint 19 = .ok (.ldc 37, 2) := by decide +kernel
theorem dX6_breakpoint_21 : decode cX6_breakpoint 21 = .ok (.ireturn, 1) := by decide +kernel
theorem dX6_cycle_0 : decode cX6_cycle 0 = .ok (.aload_n 0, 1) := by decide +kernel
theorem dX6_cycle_1 : decode cX6_cycle 1 = .ok (.getfield 10, 3) := by decide +kernel
theorem dX6_cycle_4 : decode cX6_cycle 4 = .ok (.getfield 152, 3) := by decide +kernel
theorem dX6_cycle_7 : decode cX6_cycle 7 = .ok (.ireturn, 1) := by decide +kernel
theorem dX6_idle_0 : decode cX6_idle 0 = .ok (.aload_n 0, 1) := by decide +kernel
theorem dX6_idle_1 : decode cX6_idle 1 = .ok (.getfield 10, 3) := by decide +kernel
theorem dX6_idle_4 : decode cX6_idle 4 = .ok (.getfield 155, 3) := by decide +kernel
theorem dX6_idle_7 : decode cX6_idle 7 = .ok (.ireturn, 1) := by decide +kernel
set_option maxRecDepth 20000 in
theorem ggX6_executed_X6_isThread : GoodIn wsX6_executed wsX6_isThread := goodIn_r _ [6, 7, 8, 5, 9] (by decide +kernel) (by decide +kernel)
set_option maxRecDepth 20000 in
theorem gX6_executed_X6_isThread : GoodIn wsX6_executed (va_wsS RX6 66 yX6_isThread wsX6_isThread) := goodIn_app (goodIn_of _ (by decide +kernel)) ggX6_executed_X6_isThread
theorem dX6_executed_0 : decode cX6_executed 0 = .ok (.iload_n 1, 1) := by decide +kernel
theorem dX6_executed_1 : decode cX6_executed 1 = .ok (.invokestatic 66, 3) := by decide +kernel
theorem dX6_executed_4 : decode cX6_executed 4 = .ok (.ifCond .eq 18, 3) := by decide +kernel
theorem dX6_executed_7 : decode cX6_executed 7 = .ok (.aload_n 0, 1) := by decide +kernel
theorem dX6_executed_8 : decode cX6_executed 8 = .ok (.getfield 10, 3) := by decide +kernel
theorem dX6_executed_11 : decode cX6_executed 11 = .ok (.getfield 69, 3) := by decide +kernel
theorem dX6_executed_14 : decode cX6_executed 14 = .ok (.iload_n 1, 1) := by decide +kernel
theorem dX6_executed_15 : decode cX6_executed 15 = .ok (.aaload, 1) := by decide +kernel
theorem dX6_executed_16 : decode cX6_executed 16 = .ok (.getfield 158, 3) := by decide +kernel
theorem dX6_executed_19 : decode cX6_executed 19 = .ok (.goto 5, 3) := by decide +kernel
theorem dX6_executed_22 : decode cX6_executed 22 = .ok (.ldc 37, 2) := by decide +kernel
theorem dX6_executed_24 : decode cX6_executed 24 = .ok (.ireturn, 1) := by decide +kernel
set_option maxRecDepth 20000 in
theorem ggX6_lent_X6_isThread : GoodIn wsX6_lent wsX6_isThread := goodIn_r _ [6, 7, 8, 5, 9] (by decide +kernel) (by decide +kernel)
set_option maxRecDepth 20000 in
theorem gX6_lent_X6_isThread : GoodIn wsX6_lent (va_wsS RX6 66 yX6_isThread wsX6_isThread) := goodIn_app (goodIn_of _ (by decide +kernel)) ggX6_lent_X6_isThread
theorem dX6_lent_0 : decode cX6_lent 0 = .ok (.iload_n 1, 1) := by decide +kernel
theorem dX6_lent_1 : decode cX6_lent 1 = .ok (.invokestatic 66, 3) := by decide +kernel
theorem dX6_lent_4 : decode cX6_lent 4 = .ok (.ifCond .eq 18, 3) := by decide +kernel
theorem dX6_lent_7 : decode cX6_lent 7 = .ok (.aload_n 0, 1) := by decide +kernel
theorem dX6_lent_8 : decode cX6_lent 8 = .ok (.getfield 10, 3) := by decide +kernel
theorem dX6_lent_11 : decode cX6_lent 11 = .ok (.getfield 69, 3) := by decide +kernel
theorem dX6_lent_14 : decode cX6_lent 14 = .ok (.iload_n 1, 1) := by decide +kernel
theorem dX6_lent_15 : decode cX6_lent 15 = .ok (.aaload, 1) := by decide +kernel
theorem dX6_lent_16 : decode cX6_lent 16 = .ok (.getfield 161, 3) := by decide +kernel
theorem dX6_lent_19 : decode cX6_lent 19 = .ok (.goto 5, 3) := by decide +kernel
theorem dX6_lent_22 : decode cX6_lent 22 = .ok (.ldc 37, 2) := by decide +kernel
theorem dX6_lent_24 : decode cX6_lent 24 = .ok (.ireturn, 1) := by decide +kernel
set_option maxRecDepth 20000 in
theorem ggX6_starved_X6_isThread : GoodIn wsX6_starved wsX6_isThread := goodIn_r _ [6, 7, 8, 5, 9] (by decide +kernel) (by decide +kernel)
set_option maxRecDepth 20000 in
theorem gX6_starved_X6_isThread : GoodIn wsX6_starved (va_wsS RX6 66 yX6_isThread wsX6_isThread) := goodIn_app (goodIn_of _ (by decide +kernel)) ggX6_starved_X6_isThread
theorem dX6_starved_0 : decode cX6_starved 0 = .ok (.iload_n 1, 1) := by decide +kernel
theorem dX6_starved_1 : decode cX6_starved 1 = .ok (.invokestatic 66, 3) := by decide +kernel
theorem dX6_starved_4 : decode cX6_starved 4 = .ok (.ifCond .eq 18, 3) := by decide +kernel
theorem dX6_starved_7 : decode cX6_starved 7 = .ok (.aload_n 0, 1) := by decide +kernel
theorem dX6_starved_8 : decode cX6_starved 8 = .ok (.getfield 10, 3) := by decide +kernel
theorem dX6_starved_11 : decode cX6_starved 11 = .ok (.getfield 69, 3) := by decide +kernel
theorem dX6_starved_14 : decode cX6_starved 14 = .ok (.iload_n 1, 1) := by decide +kernel
theorem dX6_starved_15 : decode cX6_starved 15 = .ok (.aaload, 1) := by decide +kernel
theorem dX6_starved_16 : decode cX6_starved 16 = .ok (.getfield 164, 3) := by decide +kernel
theorem dX6_starved_19 : decode cX6_starved 19 = .ok (.goto 5, 3) := by decide +kernel
theorem dX6_starved_22 : decode cX6_starved 22 = .ok (.ldc 37, 2) := by decide +kernel
theorem dX6_starved_24 : decode cX6_starved 24 = .ok (.ireturn, 1) := by decide +kernel
set_option maxRecDepth 20000 in
theorem ggX6_trace_X6_isWithin : GoodIn wsX6_trace wsX6_isWithin := goodIn_r _ [6] (by decide +kernel) (by decide +kernel)
set_option maxRecDepth 20000 in
theorem gX6_trace_X6_isWithin : GoodIn wsX6_trace (va_wsS RX6 115 yX6_isWithin wsX6_isWithin) := goodIn_app (goodIn_of _ (by decide +kernel)) ggX6_trace_X6_isWithin
set_option maxRecDepth 20000 in
theorem ggX6_trace_X5_lookUp : GoodIn wsX6_trace wsX5_lookUp := goodIn_r _ [11, 12, 13, 14, 15, 29, 30, 31] (by decide +kernel) (by decide +kernel)
set_option maxRecDepth 20000 in
theorem gX6_trace_X5_lookUp : GoodIn wsX6_trace (wsV RX6 173 RX5 yX5_lookUp wsX5_lookUp) := goodIn_app (goodIn_of _ (by decide +kernel)) ggX6_trace_X5_lookUp
theorem dX6_trace_0 : decode cX6_trace 0 = .ok (.iload_n 1, 1) := by decide +kernel
theorem dX6_trace_1 : decode cX6_trace 1 = .ok (.ifCond .lt 12, 3) := by decide +kernel
theorem dX6_trace_4 : decode cX6_trace 4 = .ok (.iload_n 2, 1) := by decide +kernel
theorem dX6_trace_5 : decode cX6_trace 5 = .ok (.iconst 0, 1) := by decide +kernel
theorem dX6_trace_6 : decode cX6_trace 6 = .ok (.iconst 2, 1) := by decide +kernel
theorem dX6_trace_7 : decode cX6_trace 7 = .ok (.invokestatic 115, 3) := by decide +kernel
theorem dX6_trace_10 : decode cX6_trace 10 = .ok (.ifCond .ne 6, 3) := by decide +kernel
theorem dX6_trace_13 : decode cX6_trace 13 = .ok (.ldc 91, 2) := by decide +kernel
theorem dX6_trace_15 : decode cX6_trace 15 = .ok (.ireturn, 1) := by decide +kernel
theorem dX6_trace_16 : decode cX6_trace 16 = .ok (.aload_n 0, 1) := by decide +kernel
theorem dX6_trace_17 : decode cX6_trace 17 = .ok (.getfield 10, 3) := by decide +kernel
theorem dX6_trace_20 : decode cX6_trace 20 = .ok (.getfield 169, 3) := by decide +kernel
theorem dX6_trace_23 : decode cX6_trace 23 = .ok (.iload_n 1, 1) := by decide +kernel
theorem dX6_trace_24 : decode cX6_trace 24 = .ok (.iload_n 2, 1) := by decide +kernel
theorem dX6_trace_25 : decode cX6_trace 25 = .ok (.invokevirtual 173, 3) := by decide +kernel
theorem dX6_trace_28 : decode cX6_trace 28 = .ok (.ireturn, 1) := by decide +kernel
theorem dX6_use_0 : decode cX6_use 0 = .ok (.aload_n 0, 1) := by decide +kernel
theorem dX6_use_1 : decode cX6_use 1 = .ok (.getfield 10, 3) := by decide +kernel
theorem dX6_use_4 : decode cX6_use 4 = .ok (.getfield 152, 3) := by decide +kernel
theorem dX6_use_7 : decode cX6_use 7 = .ok (.ifCond .ne 5, 3) := by decide +kernel
theorem dX6_use_10 : decode cX6_use 10 = .ok (.fconst 0, 1) := by decide +kernel
theorem dX6_use_11 : decode cX6_use 11 = .ok (.freturn, 1) := by decide +kernel
theorem dX6_use_12 : decode cX6_use 12 = .ok (.aload_n 0, 1) := by decide +kernel
theorem dX6_use_13 : decode cX6_use 13 = .ok (.getfield 10, 3) := by decide +kernel
theorem dX6_use_16 : decode cX6_use 16 = .ok (.getfield 152, 3) := by decide +kernel
theorem dX6_use_19 : decode cX6_use 19 = .ok (.aload_n 0, 1) := by decide +kernel
theorem dX6_use_20 : decode cX6_use 20 = .ok (.getfield 10, 3) := by decide +kernel
theorem dX6_use_23 : decode cX6_use 23 = .ok (.getfield 155, 3) := by decide +kernel
theorem dX6_use_26 : decode cX6_use 26 = .ok (.isub, 1) := by decide +kernel
theorem dX6_use_27 : decode cX6_use 27 = .ok (.i2f, 1) := by decide +kernel
theorem dX6_use_28 : decode cX6_use 28 = .ok (.aload_n 0, 1) := by decide +kernel
theorem dX6_use_29 : decode cX6_use 29 = .ok (.getfield 10, 3) := by decide +kernel
theorem dX6_use_32 : decode cX6_use 32 = .ok (.getfield 152, 3) := by decide +kernel
theorem dX6_use_35 : decode cX6_use 35 = .ok (.i2f, 1) := by decide +kernel
theorem dX6_use_36 : decode cX6_use 36 = .ok (.fdiv, 1) := by decide +kernel
theorem dX6_use_37 : decode cX6_use 37 = .ok (.freturn, 1) := by decide +kernel
set_option maxRecDepth 20000 in
theorem ggX6_nextThread_X3_findIssuer : GoodIn wsX6_nextThread wsX3_findIssuer := goodIn_r _ [6, 7, 8, 9, 10, 11, 5, 12, 13, 14, 15, 16, 17, 18, 19, 20, 21, 22, 23, 24, 25, 26, 27, 28, 29, 30, 31, 32, 33, 34, 35, 36, 37, 38, 39, 40, 45, 46, 47, 48, 49, 50, 51, 52, 53, 54, 55, 56, 57, 58, 59, 60, 61, 62, 63, 64] (by decide +kernel) (by decide +kernel)
set_option maxRecDepth 20000 in
theorem gX6_nextThread_X3_findIssuer : GoodIn wsX6_nextThread (wsV RX6 177 RX3 yX3_findIssuer wsX3_findIssuer) := goodIn_app (goodIn_of _ (by decide +kernel)) ggX6_nextThread_X3_findIssuer
theorem dX6_nextThread_0 : decode cX6_nextThread 0 = .ok (.aload_n 0, 1) := by decide +kernel
theorem dX6_nextThread_1 : decode cX6_nextThread 1 = .ok (.getfield 10, 3) := by decide +kernel
theorem dX6_nextThread_4 : decode cX6_nextThread 4 = .ok (.invokevirtual 177, 3) := by decide +kernel
theorem dX6_nextThread_7 : decode cX6_nextThread 7 = .ok (.ireturn, 1) := by decide +kernel
set_option maxRecDepth 20000 in
theorem ggX6_cyclesLeft_X6_tryOut : GoodIn wsX6_cyclesLeft wsX6_tryOut := goodIn_r _ [6, 7, 1, 8, 9, 10, 11, 12, 13, 14, 15, 16, 17, 18, 19, 20, 21, 22, 23, 24, 25, 26, 27, 28, 29, 30, 31, 32, 33, 34, 35, 36, 37, 38, 39, 40, 41, 42, 43, 44, 45, 46, 47, 48, 49, 50, 51, 52, 53, 54, 55, 56, 57, 58, 59, 60, 61, 62, 63, 64, 65, 66, 67, 68, 69, 70, 71, 72, 73, 74, 75, 76, 77, 78, 79, 80, 81, 82, 83, 84, 85, 86, 87, 88, 89, 90, 91, 92, 93, 94, 95, 96, 97, 98, 99, 100, 101, 102, 103, 104, 105, 106, 107, 108, 109, 110, 111, 112, 113, 114, 115, 116, 117, 118, 119, 120, 121, 122, 123, 5, 124, 125, 126, 127, 128, 129, 130, 131, 132, 133, 134, 135, 136, 137, 138, 139, 140, 141, 142, 143, 144, 145, 146, 147, 148, 149, 150, 151, 152, 153, 154, 155, 156, 157, 158, 159, 160, 161, 162, 163, 164, 165, 166, 167, 168, 169, 170, 171, 172, 173, 174, 175, 176, 177, 178, 179, 180, 181, 182, 183, 184, 185, 186, 187] (by decide +kernel) (by decide +kernel)
set_option maxRecDepth 20000 in
theorem gX6_cyclesLeft_X6_tryOut : GoodIn wsX6_cyclesLeft (wsV RX6 180 RX6 yX6_tryOut wsX6_tryOut) := goodIn_app (goodIn_of _ (by decide +kernel)) ggX6_cyclesLeft_X6_tryOut
theorem dX6_cyclesLeft_0 : decode cX6_cyclesLeft 0 = .ok (.aload_n 0, 1) := by decide +kernel
theorem dX6_cyclesLeft_1 : decode cX6_cyclesLeft 1 = .ok (.aload_n 0, 1) := by decide +kernel
theorem dX6_cyclesLeft_2 : decode cX6_cyclesLeft 2 = .ok (.getfield 10, 3) := by decide +kernel
theorem dX6_cyclesLeft_5 : decode cX6_cyclesLeft 5 = .ok (.getfield 119, 3) := by decide +kernel
theorem dX6_cyclesLeft_8 : decode cX6_cyclesLeft 8 = .ok (.iconst 0, 1) := by decide +kernel
theorem dX6_cyclesLeft_9 : decode cX6_cyclesLeft 9 = .ok (.iaload, 1) := by decide +kernel
theorem dX6_cyclesLeft_10 : decode cX6_cyclesLeft 10 = .ok (.aload_n 0, 1) := by decide +kernel
theorem dX6_cyclesLeft_11 : decode cX6_cyclesLeft 11 = .ok (.getfield 10, 3) := by decide +kernel
theorem dX6_cyclesLeft_14 : decode cX6_cyclesLeft 14 = .ok (.getfield 119, 3) := by decide +kernel
theorem dX6_cyclesLeft_17 : decode cX6_cyclesLeft 17 = .ok (.iconst 1, 1) := by decide +kernel
theorem dX6_cyclesLeft_18 : decode cX6_cyclesLeft 18 = .ok (.iaload, 1) := by decide +kernel
theorem dX6_cyclesLeft_19 : decode cX6_cyclesLeft 19 = .ok (.invokevirtual 180, 3) := by decide +kernel
theorem dX6_cyclesLeft_22 : decode cX6_cyclesLeft 22 = .ok (.ireturn, 1) := by decide +kernel
set_option maxRecDepth 20000 in
theorem ggX6_cyclesIf_X6_isWithin : GoodIn wsX6_cyclesIf wsX6_isWithin := goodIn_r _ [5] (by decide +kernel) (by decide +kernel)
set_option maxRecDepth 20000 in
theorem gX6_cyclesIf_X6_isWithin : GoodIn wsX6_cyclesIf (va_wsS RX6 115 yX6_isWithin wsX6_isWithin) := goodIn_app (goodIn_of _ (by decide +kernel)) ggX6_cyclesIf_X6_isWithin
set_option maxRecDepth 20000 in
theorem ggX6_cyclesIf_X6_tryOut : GoodIn wsX6_cyclesIf wsX6_tryOut := goodIn_r _ [9, 10, 11, 12, 13, 14, 15, 16, 17, 18, 19, 20, 21, 22, 23, 24, 25, 26, 27, 28, 29, 30, 31, 32, 33, 34, 35, 36, 37, 38, 39, 40, 41, 42, 43, 44, 45, 46, 47, 48, 49, 50, 51, 52, 53, 54, 55, 56, 57, 58, 59, 60, 61, 62, 63, 64, 65, 66, 67, 68, 69, 70, 71, 72, 73, 74, 75, 76, 77, 78, 79, 80, 81, 82, 83, 84, 85, 86, 87, 88, 89, 90, 91, 92, 93, 94, 95, 96, 97, 98, 99, 100, 101, 102, 103, 104, 105, 106, 107, 108, 109, 110, 111, 112, 113, 114, 115, 116, 117, 118, 119, 120, 121, 122, 123, 124, 125, 126, 127, 4, 128, 2, 3, 5, 129, 130, 131, 132, 133, 134, 135, 136, 137, 138, 139, 140, 141, 142, 143, 144, 145, 146, 147, 148, 149, 150, 151, 152, 153, 154, 155, 156, 157, 158, 159, 160, 161, 162, 163, 164, 165, 166, 167, 168, 169, 170, 171, 172, 173, 174, 175, 176, 177, 178, 179, 180, 181, 182, 183, 184, 185, 186, 187, 188] (by decide +kernel) (by decide +kernel)
set_option maxRecDepth 20000 in
theorem gX6_cyclesIf_X6_tryOut : GoodIn wsX6_cyclesIf (wsV RX6 180 RX6 yX6_tryOut wsX6_tryOut) := goodIn_app (goodIn_of _ (by decide +kernel)) ggX6_cyclesIf_X6_tryOut
theorem dX6_cyclesIf_0 : decode cX6_cyclesIf 0 = .ok (.iload_n 1, 1) := by decide +kernel
theorem dX6_cyclesIf_1 : decode cX6_cyclesIf 1 = .ok (.iconst 0, 1) := by decide +kernel
theorem dX6_cyclesIf_2 : decode cX6_cyclesIf 2 = .ok (.bipush 20, 2) := by decide +kernel
theorem dX6_cyclesIf_4 : decode cX6_cyclesIf 4 = .ok (.invokestatic 115, 3) := by decide +kernel
theorem dX6_cyclesIf_7 : decode cX6_cyclesIf 7 = .ok (.ifCond .eq 12, 3) := by decide +kernel
theorem dX6_cyclesIf_10 : decode cX6_cyclesIf 10 = .ok (.iload_n 2, 1) := by decide +kernel
theorem dX6_cyclesIf_11 : decode cX6_cyclesIf 11 = .ok (.iconst 0, 1) := by decide +kernel
theorem dX6_cyclesIf_12 : decode cX6_cyclesIf 12 = .ok (.iconst 2, 1) := by decide +kernel
theorem dX6_cyclesIf_13 : decode cX6_cyclesIf 13 = .ok (.invokestatic 115, 3) := by decide +kernel
theorem dX6_cyclesIf_16 : decode cX6_cyclesIf 16 = .ok (.ifCond .ne 6, 3) := by decide +kernel
theorem dX6_cyclesIf_19 : decode cX6_cyclesIf 19 = .ok (.ldc 91, 2) := by decide +kernel
theorem dX6_cyclesIf_21 : decode cX6_cyclesIf 21 = .ok (.ireturn, 1) := by decide +kernel
theorem dX6_cyclesIf_22 : decode cX6_cyclesIf 22 = .ok (.aload_n 0, 1) := by decide +kernel
theorem dX6_cyclesIf_23 : decode cX6_cyclesIf 23 = .ok (.iload_n 1, 1) := by decide +kernel
theorem dX6_cyclesIf_24 : decode cX6_cyclesIf 24 = .ok (.iload_n 2, 1) := by decide +kernel
theorem dX6_cyclesIf_25 : decode cX6_cyclesIf 25 = .ok (.invokevirtual 180, 3) := by decide +kernel
theorem dX6_cyclesIf_28 : decode cX6_cyclesIf 28 = .ok (.ireturn, 1) := by decide +kernel
set_option maxRecDepth 20000 in
theorem ggX6_bestLend_X6_tryOut : GoodIn wsX6_bestLend wsX6_tryOut := goodIn_r _ [7, 8, 2, 9, 10, 11, 12, 13, 14, 15, 16, 17, 18, 19, 20, 21, 22, 23, 24, 25, 26, 27, 28, 29, 30, 31, 32, 33, 34, 35, 36, 37, 38, 39, 40, 41, 42, 43, 44, 45, 46, 47, 48, 49, 50, 51, 52, 53, 54, 55, 56, 57, 58, 59, 60, 61, 62, 63, 64, 65, 66, 67, 68, 69, 70, 71, 72, 73, 74, 75, 76, 77, 78, 79, 80, 81, 82, 83, 84, 85, 86, 87, 88, 89, 90, 91, 92, 93, 94, 95, 96, 97, 98, 99, 100, 101, 102, 103, 104, 105, 106, 107, 108, 109, 110, 111, 112, 113, 114, 115, 116, 117, 118, 119, 120, 121, 122, 123, 124, 6, 125, 126, 127, 128, 129, 130, 131, 132, 133, 134, 135, 136, 137, 138, 139, 140, 141, 142, 143, 144, 145, 146, 147, 148, 149, 150, 151, 152, 153, 154, 155, 156, 157, 158, 159, 160, 161, 162, 163, 164, 165, 166, 167, 168, 169, 170, 171, 172, 173, 174, 175, 176, 177, 178, 179, 180, 181, 182, 183, 184, 185, 186, 187, 188] (by decide +kernel) (by decide +kernel)
set_option maxRecDepth 20000 in
theorem gX6_bestLend_X6_tryOut : GoodIn wsX6_bestLend (wsV RX6 180 RX6 yX6_tryOut wsX6_tryOut) := goodIn_app (goodIn_of _ (by decide +kernel)) ggX6_bestLend_X6_tryOut
theorem dX6_bestLend_0 : decode cX6_bestLend 0 = .ok (.ldc 42, 2) := by decide +kernel
theorem dX6_bestLend_2 : decode cX6_bestLend 2 = .ok (.istore_n 1, 1) := by decide +kernel
theorem dX6_bestLend_3 : decode cX6_bestLend 3 = .ok (.sipush 501, 3) := by decide +kernel
theorem dX6_bestLend_6 : decode cX6_bestLend 6 = .ok (.istore_n 2, 1) := by decide +kernel
theorem dX6_bestLend_7 : decode cX6_bestLend 7 = .ok (.iconst 0, 1) := by decide +kernel
theorem dX6_bestLend_8 : decode cX6_bestLend 8 = .ok (.istore_n 3, 1) := by decide +kernel
theorem dX6_bestLend_9 : decode cX6_bestLend 9 = .ok (.iload_n 3, 1) := by decide +kernel
theorem dX6_bestLend_10 : decode cX6_bestLend 10 = .ok (.iconst 2, 1) := by decide +kernel
theorem dX6_bestLend_11 : decode cX6_bestLend 11 = .ok (.if_icmp .gt 43, 3) := by decide +kernel
theorem dX6_bestLend_14 : decode cX6_bestLend 14 = .ok (.aload_n 0, 1) := by decide +kernel
theorem dX6_bestLend_15 : decode cX6_bestLend 15 = .ok (.aload_n 0, 1) := by decide +kernel
theorem dX6_bestLend_16 : decode cX6_bestLend 16 = .ok (.getfield 10, 3) := by decide +kernel
theorem dX6_bestLend_19 : decode cX6_bestLend 19 = .ok (.getfield 119, 3) := by decide +kernel
theorem dX6_bestLend_22 : decode cX6_bestLend 22 = .ok (.iconst 0, 1) := by decide +kernel
theorem dX6_bestLend_23 : decode cX6_bestLend 23 = .ok (.iaload, 1) := by decide +kernel
theorem dX6_bestLend_24 : decode cX6_bestLend 24 = .ok (.iload_n 3, 1) := by decide +kernel
theorem dX6_bestLend_25 : decode cX6_bestLend 25 = .ok (.invokevirtual 180, 3) := by decide +kernel
theorem dX6_bestLend_28 : decode cX6_bestLend 28 = .ok (.istore 4, 2) := by decide +kernel
theorem dX6_bestLend_30 : decode cX6_bestLend 30 = .ok (.iload 4, 2) := by decide +kernel
theorem dX6_bestLend_32 : decode cX6_bestLend 32 = .ok (.ldc 42, 2) := by decide +kernel
theorem dX6_bestLend_34 : decode cX6_bestLend 34 = .ok (.if_icmp .eq 14, 3) := by decide +kernel
theorem dX6_bestLend_37 : decode cX6_bestLend 37 = .ok (.iload 4, 2) := by decide +kernel
theorem dX6_bestLend_39 : decode cX6_bestLend 39 = .ok (.iload_n 2, 1) := by decide +kernel
theorem dX6_bestLend_40 : decode cX6_bestLend 40 = .ok (.if_icmp .ge 8, 3) := by decide +kernel
theorem dX6_bestLend_43 : decode cX6_bestLend 43 = .ok (.iload_n 3, 1) := by decide +kernel
theorem dX6_bestLend_44 : decode cX6_bestLend 44 = .ok (.istore_n 1, 1) := by decide +kernel
theorem dX6_bestLend_45 : decode cX6_bestLend 45 = .ok (.iload 4, 2) := by decide +kernel
theorem dX6_bestLend_47 : decode cX6_bestLend 47 = .ok (.istore_n 2, 1) := by decide +kernel
theorem dX6_bestLend_48 : decode cX6_bestLend 48 = .ok (.iinc 3 1, 3) := by decide +kernel
theorem dX6_bestLend_51 : decode cX6_bestLend 51 = .ok (.goto (-42), 3) := by decide +kernel
theorem dX6_bestLend_54 : decode cX6_bestLend 54 = .ok (.iload_n 1, 1) := by decide +kernel
theorem dX6_bestLend_55 : decode cX6_bestLend 55 = .ok (.ireturn, 1) := by decide +kernel
set_option maxRecDepth 20000 in
theorem ggX6_finalWord_X6_isWord : GoodIn wsX6_finalWord wsX6_isWord := goodIn_r _ [8, 9, 10, 7, 11] (by decide +kernel) (by decide +kernel)
set_option maxRecDepth 20000 in
theorem gX6_finalWord_X6_isWord : GoodIn wsX6_finalWord (va_wsS RX6 100 yX6_isWord wsX6_isWord) := goodIn_app (goodIn_of _ (by decide +kernel)) ggX6_finalWord_X6_isWord
set_option maxRecDepth 20000 in
theorem ggX6_finalWord_X6_tryOut : GoodIn wsX6_finalWord wsX6_tryOut := goodIn_r _ [15, 4, 2, 16, 17, 18, 19, 20, 21, 22, 23, 24, 25, 26, 27, 28, 29, 30, 31, 32, 33, 34, 35, 36, 37, 38, 39, 40, 41, 42, 43, 44, 45, 46, 47, 48, 49, 50, 51, 52, 53, 54, 55, 56, 57, 58, 59, 60, 61, 62, 63, 64, 65, 66, 67, 68, 69, 70, 71, 72, 73, 74, 75, 76, 77, 78, 79, 80, 81, 82, 83, 84, 85, 86, 87, 88, 89, 90, 91, 92, 93, 94, 95, 96, 97, 98, 99, 100, 101, 102, 103, 104, 105, 106, 107, 108, 109, 110, 111, 112, 113, 114, 115, 116, 117, 118, 119, 120, 121, 122, 123, 124, 125, 126, 127, 128, 129, 130, 131, 7, 132, 9, 10, 11, 133, 134, 135, 136, 137, 138, 139, 140, 141, 142, 143, 144, 145, 146, 147, 148, 149, 150, 151, 152, 153, 154, 155, 156, 157, 158, 159, 160, 161, 162, 163, 164, 165, 166, 167, 168, 169, 170, 171, 172, 173, 174, 175, 176, 177, 178, 179, 180, 181, 182, 183, 184, 185, 186, 187, 188, 189, 190, 191, 192] (by decide +kernel) (by decide +kernel)
set_option maxRecDepth 20000 in
theorem gX6_finalWord_X6_tryOut : GoodIn wsX6_finalWord (wsV RX6 180 RX6 yX6_tryOut wsX6_tryOut) := goodIn_app (goodIn_of _ (by decide +kernel)) ggX6_finalWord_X6_tryOut
theorem dX6_finalWord_0 : decode cX6_finalWord 0 = .ok (.iload_n 1, 1) := by decide +kernel
theorem dX6_finalWord_1 : decode cX6_finalWord 1 = .ok (.invokestatic 100, 3) := by decide +kernel
theorem dX6_finalWord_4 : decode cX6_finalWord 4 = .ok (.ifCond .ne 6, 3) := by decide +kernel
theorem dX6_finalWord_7 : decode cX6_finalWord 7 = .ok (.ldc 37, 2) := by decide +kernel
theorem dX6_finalWord_9 : decode cX6_finalWord 9 = .ok (.ireturn, 1) := by decide +kernel
theorem dX6_finalWord_10 : decode cX6_finalWord 10 = .ok (.aload_n 0, 1) := by decide +kernel
theorem dX6_finalWord_11 : decode cX6_finalWord 11 = .ok (.aload_n 0, 1) := by decide +kernel
theorem dX6_finalWord_12 : decode cX6_finalWord 12 = .ok (.getfield 10, 3) := by decide +kernel
theorem dX6_finalWord_15 : decode cX6_finalWord 15 = .ok (.getfield 119, 3) := by decide +kernel
theorem dX6_finalWord_18 : decode cX6_finalWord 18 = .ok (.iconst 0, 1) := by decide +kernel
theorem dX6_finalWord_19 : decode cX6_finalWord 19 = .ok (.iaload, 1) := by decide +kernel
theorem dX6_finalWord_20 : decode cX6_finalWord 20 = .ok (.aload_n 0, 1) := by decide +kernel
theorem dX6_finalWord_21 : decode cX6_finalWord 21 = .ok (.getfield 10, 3) := by decide +kernel
theorem dX6_finalWord_24 : decode cX6_finalWord 24 = .ok (.getfield 119, 3) := by decide +kernel
theorem dX6_finalWord_27 : decode cX6_finalWord 27 = .ok (.iconst 1, 1) := by decide +kernel
theorem dX6_finalWord_28 : decode cX6_finalWord 28 = .ok (.iaload, 1) := by decide +kernel
theorem dX6_finalWord_29 : decode cX6_finalWord 29 = .ok (.invokevirtual 180, 3) := by decide +kernel
theorem dX6_finalWord_32 : decode cX6_finalWord 32 = .ok (.istore_n 2, 1) := by decide +kernel
theorem dX6_finalWord_33 : decode cX6_finalWord 33 = .ok (.iload_n 2, 1) := by decide +kernel
theorem dX6_finalWord_34 : decode cX6_finalWord 34 = .ok (.ldc 42, 2) := by decide +kernel
theorem dX6_finalWord_36 : decode cX6_finalWord 36 = .ok (.if_icmp .ne 8, 3) := by decide +kernel
theorem dX6_finalWord_39 : decode cX6_finalWord 39 = .ok (.ldc 42, 2) := by decide +kernel
theorem dX6_finalWord_41 : decode cX6_finalWord 41 = .ok (.goto 12, 3) := by decide +kernel
theorem dX6_finalWord_44 : decode cX6_finalWord 44 = .ok (.aload_n 0, 1) := by decide +kernel
theorem dX6_finalWord_45 : decode cX6_finalWord 45 = .ok (.getfield 16, 3) := by decide +kernel
theorem dX6_finalWord_48 : decode cX6_finalWord 48 = .ok (.getfield 103, 3) := by decide +kernel
theorem dX6_finalWord_51 : decode cX6_finalWord 51 = .ok (.iload_n 1, 1) := by decide +kernel
theorem dX6_finalWord_52 : decode cX6_finalWord 52 = .ok (.iaload, 1) := by decide +kernel
theorem dX6_finalWord_53 : decode cX6_finalWord 53 = .ok (.ireturn, 1) := by decide +kernel
set_option maxRecDepth 20000 in
theorem ggX6_tryOut_X3_copyFrom : GoodIn wsX6_tryOut wsX3_copyFrom := goodIn_r _ [7, 8, 9, 10, 11, 12, 13, 14, 15, 16, 17, 18, 19, 20, 21, 22, 23, 24, 25, 26, 27, 28, 29, 30, 31, 32, 33, 34, 35, 36, 37, 38, 39, 40, 41, 42, 43, 44, 45, 46, 47, 48, 49, 50, 51, 52, 53, 54, 159, 160, 161, 162, 163, 164, 165, 166, 167, 168, 169, 170, 171, 172, 173, 174, 175, 176, 177, 178, 179, 180, 181, 182, 183] (by decide +kernel) (by decide +kernel)
set_option maxRecDepth 20000 in
theorem gX6_tryOut_X3_copyFrom : GoodIn wsX6_tryOut (wsV RX6 183 RX3 yX3_copyFrom wsX3_copyFrom) := goodIn_app (goodIn_of _ (by decide +kernel)) ggX6_tryOut_X3_copyFrom
set_option maxRecDepth 20000 in
theorem ggX6_tryOut_X3_runToEnd : GoodIn wsX6_tryOut wsX3_runToEnd := goodIn_r _ [58, 59, 60, 61, 62, 6, 63, 8, 64, 65, 66, 67, 20, 19, 68, 69, 70, 71, 15, 72, 73, 74, 24, 75, 28, 32, 76, 77, 78, 79, 80, 81, 82, 83, 84, 85, 86, 87, 17, 88, 89, 90, 91, 92, 93, 94, 95, 16, 96, 97, 98, 99, 100, 101, 102, 103, 104, 105, 106, 107, 108, 109, 110, 111, 112, 113, 36, 37, 114, 115, 116, 117, 118, 119, 120, 121, 122, 123, 124, 125, 126, 127, 18, 128, 129, 130, 49, 131, 53, 51, 54, 132, 133, 134, 135, 136, 137, 138, 9, 139, 140, 141, 142, 143, 144, 145, 146, 147, 148, 149, 150, 151, 30, 31, 152, 153, 154, 159, 160, 161, 162, 163, 164, 165, 166, 167, 168, 169, 170, 171, 172, 173, 174, 175, 176, 177, 178, 181, 182, 183, 179, 180] (by decide +kernel) (by decide +kernel)
set_option maxRecDepth 20000 in
theorem gX6_tryOut_X3_runToEnd : GoodIn wsX6_tryOut (wsV RX6 186 RX3 yX3_runToEnd wsX3_runToEnd) := goodIn_app (goodIn_of _ (by decide +kernel)) ggX6_tryOut_X3_runToEnd
theorem dX6_tryOut_0 : decode cX6_tryOut 0 = .ok (.aload_n 0, 1) := by decide +kernel
theorem dX6_tryOut_1 : decode cX6_tryOut 1 = .ok (.getfield 16, 3) := by decide +kernel
theorem dX6_tryOut_4 : decode cX6_tryOut 4 = .ok (.aload_n 0, 1) := by decide +kernel
theorem dX6_tryOut_5 : decode cX6_tryOut 5 = .ok (.getfield 10, 3) := by decide +kernel
theorem dX6_tryOut_8 : decode cX6_tryOut 8 = .ok (.invokevirtual 183, 3) := by decide +kernel
theorem dX6_tryOut_11 : decode cX6_tryOut 11 = .ok (.aload_n 0, 1) := by decide +kernel
theorem dX6_tryOut_12 : decode cX6_tryOut 12 = .ok (.getfield 16, 3) := by decide +kernel
theorem dX6_tryOut_15 : decode cX6_tryOut 15 = .ok (.getfield 119, 3) := by decide +kernel
theorem dX6_tryOut_18 : decode cX6_tryOut 18 = .ok (.iconst 0, 1) := by decide +kernel
theorem dX6_tryOut_19 : decode cX6_tryOut 19 = .ok (.iload_n 1, 1) := by decide +kernel
theorem dX6_tryOut_20 : decode cX6_tryOut 20 = .ok (.iastore, 1) := by decide +kernel
theorem dX6_tryOut_21 : decode cX6_tryOut 21 = .ok (.aload_n 0, 1) := by decide +kernel
theorem dX6_tryOut_22 : decode cX6_tryOut 22 = .ok (.getfield 16, 3) := by decide +kernel
theorem dX6_tryOut_25 : decode cX6_tryOut 25 = .ok (.getfield 119, 3) := by decide +kernel
theorem dX6_tryOut_28 : decode cX6_tryOut 28 = .ok (.iconst 1, 1) := by decide +kernel
theorem dX6_tryOut_29 : decode cX6_tryOut 29 = .ok (.iload_n 2, 1) := by decide +kernel
theorem dX6_tryOut_30 : decode cX6_tryOut 30 = .ok (.iastore, 1) := by decide +kernel
theorem dX6_tryOut_31 : decode cX6_tryOut 31 = .ok (.aload_n 0, 1) := by decide +kernel
theorem dX6_tryOut_32 : decode cX6_tryOut 32 = .ok (.getfield 16, 3) := by decide +kernel
theorem dX6_tryOut_35 : decode cX6_tryOut 35 = .ok (.invokevirtual 186, 3) := by decide +kernel
theorem dX6_tryOut_38 : decode cX6_tryOut 38 = .ok (.ireturn, 1) := by decide +kernel
theorem dX6_replace_0 : decode cX6_replace 0 = .ok (.aload_n 0, 1) := by decide +kernel
theorem dX6_replace_1 : decode cX6_replace 1 = .ok (.iload_n 1, 1) := by decide +kernel
theorem dX6_replace_2 : decode cX6_replace 2 = .ok (.iaload, 1) := by decide +kernel
theorem dX6_replace_3 : decode cX6_replace 3 = .ok (.istore_n 3, 1) := by decide +kernel
theorem dX6_replace_4 : decode cX6_replace 4 = .ok (.aload_n 0, 1) := by decide +kernel
theorem dX6_replace_5 : decode cX6_replace 5 = .ok (.iload_n 1, 1) := by decide +kernel
theorem dX6_replace_6 : decode cX6_replace 6 = .ok (.iload_n 2, 1) := by decide +kernel
theorem dX6_replace_7 : decode cX6_replace 7 = .ok (.iastore, 1) := by decide +kernel
theorem dX6_replace_8 : decode cX6_replace 8 = .ok (.iload_n 3, 1) := by decide +kernel
theorem dX6_replace_9 : decode cX6_replace 9 = .ok (.ireturn, 1) := by decide +kernel
theorem dX6_isWithin_0 : decode cX6_isWithin 0 = .ok (.iload_n 0, 1) := by decide +kernel
theorem dX6_isWithin_1 : decode cX6_isWithin 1 = .ok (.iload_n 1, 1) := by decide +kernel
theorem dX6_isWithin_2 : decode cX6_isWithin 2 = .ok (.if_icmp .lt 12, 3) := by decide +kernel
theorem dX6_isWithin_5 : decode cX6_isWithin 5 = .ok (.iload_n 0, 1) := by decide +kernel
theorem dX6_isWithin_6 : decode cX6_isWithin 6 = .ok (.iload_n 2, 1) := by decide +kernel
theorem dX6_isWithin_7 : decode cX6_isWithin 7 = .ok (.if_icmp .gt 7, 3) := by decide +kernel
theorem dX6_isWithin_10 : decode cX6_isWithin 10 = .ok (.iconst 1, 1) := by decide +kernel
theorem dX6_isWithin_11 : decode cX6_isWithin 11 = .ok (.goto 4, 3) := by decide +kernel
theorem dX6_isWithin_14 : decode cX6_isWithin 14 = .ok (.iconst 0, 1) := by decide +kernel
theorem dX6_isWithin_15 : decode cX6_isWithin 15 = .ok (.ireturn, 1) := by decide +kernel
set_option maxRecDepth 20000 in
theorem ggX6_isThread_X6_isWithin : GoodIn wsX6_isThread wsX6_isWithin := goodIn_r _ [4] (by decide +kernel) (by decide +kernel)
set_option maxRecDepth 20000 in
theorem gX6_isThread_X6_isWithin : GoodIn wsX6_isThread (va_wsS RX6 115 yX6_isWithin wsX6_isWithin) := goodIn_app (goodIn_of _ (by decide +kernel)) ggX6_isThread_X6_isWithin
theorem dX6_isThread_0 : decode cX6_isThread 0 = .ok (.iload_n 0, 1) := by decide +kernel
theorem dX6_isThread_1 : decode cX6_isThread 1 = .ok (.iconst 0, 1) := by decide +kernel
theorem dX6_isThread_2 : decode cX6_isThread 2 = .ok (.iconst 3, 1) := by decide +kernel
theorem dX6_isThread_3 : decode cX6_isThread 3 = .ok (.invokestatic 115, 3) := by decide +kernel
theorem dX6_isThread_6 : decode cX6_isThread 6 = .ok (.ireturn, 1) := by decide +kernel
set_option maxRecDepth 20000 in
theorem ggX6_isRegister_X6_isWithin : GoodIn wsX6_isRegister wsX6_isWithin := goodIn_r _ [4] (by decide +kernel) (by decide +kernel)
set_option maxRecDepth 20000 in
theorem gX6_isRegister_X6_isWithin : GoodIn wsX6_isRegister (va_wsS RX6 115 yX6_isWithin wsX6_isWithin) := goodIn_app (goodIn_of _ (by decide +kernel)) ggX6_isRegister_X6_isWithin
theorem dX6_isRegister_0 : decode cX6_isRegister 0 = .ok (.iload_n 0, 1) := by decide +kernel
theorem dX6_isRegister_1 : decode cX6_isRegister 1 = .ok (.iconst 0, 1) := by decide +kernel
theorem dX6_isRegister_2 : decode cX6_isRegister 2 = .ok (.iconst 3, 1) := by decide +kernel
theorem dX6_isRegister_3 : decode cX6_isRegister 3 = .ok (.invokestatic 115, 3) := by decide +kernel
theorem dX6_isRegister_6 : decode cX6_isRegister 6 = .ok (.ireturn, 1) := by decide +kernel
set_option maxRecDepth 20000 in
theorem ggX6_isPlace_X6_isWithin : GoodIn wsX6_isPlace wsX6_isWithin := goodIn_r _ [4] (by decide +kernel) (by decide +kernel)
set_option maxRecDepth 20000 in
theorem gX6_isPlace_X6_isWithin : GoodIn wsX6_isPlace (va_wsS RX6 115 yX6_isWithin wsX6_isWithin) := goodIn_app (goodIn_of _ (by decide +kernel)) ggX6_isPlace_X6_isWithin
theorem dX6_isPlace_0 : decode cX6_isPlace 0 = .ok (.iload_n 0, 1) := by decide +kernel
theorem dX6_isPlace_1 : decode cX6_isPlace 1 = .ok (.iconst 0, 1) := by decide +kernel
theorem dX6_isPlace_2 : decode cX6_isPlace 2 = .ok (.bipush 47, 2) := by decide +kernel
theorem dX6_isPlace_4 : decode cX6_isPlace 4 = .ok (.invokestatic 115, 3) := by decide +kernel
theorem dX6_isPlace_7 : decode cX6_isPlace 7 = .ok (.ireturn, 1) := by decide +kernel
set_option maxRecDepth 20000 in
theorem ggX6_isWord_X6_isWithin : GoodIn wsX6_isWord wsX6_isWithin := goodIn_r _ [4] (by decide +kernel) (by decide +kernel)
set_option maxRecDepth 20000 in
theorem gX6_isWord_X6_isWithin : GoodIn wsX6_isWord (va_wsS RX6 115 yX6_isWithin wsX6_isWithin) := goodIn_app (goodIn_of _ (by decide +kernel)) ggX6_isWord_X6_isWithin
theorem dX6_isWord_0 : decode cX6_isWord 0 = .ok (.iload_n 0, 1) := by decide +kernel
theorem dX6_isWord_1 : decode cX6_isWord 1 = .ok (.iconst 0, 1) := by decide +kernel
theorem dX6_isWord_2 : decode cX6_isWord 2 = .ok (.bipush 31, 2) := by decide +kernel
theorem dX6_isWord_4 : decode cX6_isWord 4 = .ok (.invokestatic 115, 3) := by decide +kernel
theorem dX6_isWord_7 : decode cX6_isWord 7 = .ok (.ireturn, 1) := by decide +kernel
set_option maxRecDepth 20000 in
theorem ggX6_isSlot_X6_isWithin : GoodIn wsX6_isSlot wsX6_isWithin := goodIn_r _ [4] (by decide +kernel) (by decide +kernel)
set_option maxRecDepth 20000 in
theorem gX6_isSlot_X6_isWithin : GoodIn wsX6_isSlot (va_wsS RX6 115 yX6_isWithin wsX6_isWithin) := goodIn_app (goodIn_of _ (by decide +kernel)) ggX6_isSlot_X6_isWithin
theorem dX6_isSlot_0 : decode cX6_isSlot 0 = .ok (.iload_n 0, 1) := by decide +kernel
theorem dX6_isSlot_1 : decode cX6_isSlot 1 = .ok (.iconst 0, 1) := by decide +kernel
theorem dX6_isSlot_2 : decode cX6_isSlot 2 = .ok (.bipush 7, 2) := by decide +kernel
theorem dX6_isSlot_4 : decode cX6_isSlot 4 = .ok (.invokestatic 115, 3) := by decide +kernel
theorem dX6_isSlot_7 : decode cX6_isSlot 7 = .ok (.ireturn, 1) := by decide +kernel
set_option maxRecDepth 20000 in
theorem ggX6_isSetting_X6_isWithin : GoodIn wsX6_isSetting wsX6_isWithin := goodIn_r _ [4] (by decide +kernel) (by decide +kernel)
set_option maxRecDepth 20000 in
theorem gX6_isSetting_X6_isWithin : GoodIn wsX6_isSetting (va_wsS RX6 115 yX6_isWithin wsX6_isWithin) := goodIn_app (goodIn_of _ (by decide +kernel)) ggX6_isSetting_X6_isWithin
theorem dX6_isSetting_0 : decode cX6_isSetting 0 = .ok (.iload_n 0, 1) := by decide +kernel
theorem dX6_isSetting_1 : decode cX6_isSetting 1 = .ok (.iconst 0, 1) := by decide +kernel
theorem dX6_isSetting_2 : decode cX6_isSetting 2 = .ok (.iconst 1, 1) := by decide +kernel
theorem dX6_isSetting_3 : decode cX6_isSetting 3 = .ok (.invokestatic 115, 3) := by decide +kernel
theorem dX6_isSetting_6 : decode cX6_isSetting 6 = .ok (.ireturn, 1) := by decide +kernel
set_option maxRecDepth 20000 in
theorem ggX6_isValue_X6_isWithin : GoodIn wsX6_isValue wsX6_isWithin := goodIn_r _ [4] (by decide +kernel) (by decide +kernel)
set_option maxRecDepth 20000 in
theorem gX6_isValue_X6_isWithin : GoodIn wsX6_isValue (va_wsS RX6 115 yX6_isWithin wsX6_isWithin) := goodIn_app (goodIn_of _ (by decide +kernel)) ggX6_isValue_X6_isWithin
theorem dX6_isValue_0 : decode cX6_isValue 0 = .ok (.iload_n 0, 1) := by decide +kernel
theorem dX6_isValue_1 : decode cX6_isValue 1 = .ok (.sipush (-32768), 3) := by decide +kernel
theorem dX6_isValue_4 : decode cX6_isValue 4 = .ok (.sipush 32767, 3) := by decide +kernel
theorem dX6_isValue_7 : decode cX6_isValue 7 = .ok (.invokestatic 115, 3) := by decide +kernel
theorem dX6_isValue_10 : decode cX6_isValue 10 = .ok (.ireturn, 1) := by decide +kernel
