set_option maxRecDepth 20000 in
theorem ggX6_init_X3_init : GoodIn wsX6_init wsX3_init := goodIn_r _ [19, 20, 2, 3, 21, 22, 23, 24, 25, 26, 27, 28, 29, 30, 31, 32, 33, 34, 35, 36, 37, 38, 39, 40, 41, 42, 43, 44, 45, 46, 47, 48, 49, 50, 51, 52, 53, 54, 55, 56, 57, 58, 74, 75, 76, 77, 78, 79, 80, 81, 82, 96, 97, 98, 99, 100, 101, 102, 103, 104, 105, 106, 107, 108, 109, 110, 111] (by decide +kernel) (by decide +kernel)
set_option maxRecDepth 20000 in
theorem gX6_init_X3_init : GoodIn wsX6_init (wsX3_init) := ggX6_init_X3_init
set_option maxRecDepth 20000 in
theorem ggX6_init_X1_init : GoodIn wsX6_init wsX1_init := goodIn_r _ [61, 62, 2, 3, 63, 64, 5, 6, 65, 18, 19, 20, 21, 22, 23, 24, 25, 26, 27, 28, 29, 30, 31, 32, 33, 34, 35, 36, 37, 38, 39, 40, 41, 42, 43, 44, 45, 46, 47, 48, 49, 50, 51, 52, 53, 54, 55, 56, 57, 58, 87, 88, 89, 74, 75, 76, 77, 78, 79, 80, 81, 82, 96, 97, 98, 99, 100, 101, 102, 103, 104, 105, 106, 107, 108, 109, 110, 111] (by decide +kernel) (by decide +kernel)
set_option maxRecDepth 20000 in
theorem gX6_init_X1_init : GoodIn wsX6_init (wsX1_init) := ggX6_init_X1_init
set_option maxRecDepth 20000 in
theorem ggX6_init_X4_init : GoodIn wsX6_init wsX4_init := goodIn_r _ [67, 68, 2, 3, 69, 70, 71, 24, 25, 72, 73, 39, 40, 41, 27, 42, 43, 44, 45, 46, 47, 48, 90, 91, 92, 93, 94, 95, 96, 97] (by decide +kernel) (by decide +kernel)
set_option maxRecDepth 20000 in
theorem gX6_init_X4_init_n28 : GoodIn wsX6_init (wsX4_init) := ggX6_init_X4_init
theorem dX6_init_0 : decode cX6_init 0 = .ok (.aload_n 0, 1) := by decide +kernel
theorem dX6_init_1 : decode cX6_init 1 = .ok (.invokespecial 1, 3) := by decide +kernel
theorem dX6_init_4 : decode cX6_init 4 = .ok (.aload_n 0, 1) := by decide +kernel
theorem dX6_init_5 : decode cX6_init 5 = .ok (.new 7, 3) := by decide +kernel
theorem dX6_init_8 : decode cX6_init 8 = .ok (.dup, 1) := by decide +kernel
theorem dX6_init_9 : decode cX6_init 9 = .ok (.invokespecial 9, 3) := by decide +kernel
theorem dX6_init_12 : decode cX6_init 12 = .ok (.putfield 10, 3) := by decide +kernel
theorem dX6_init_15 : decode cX6_init 15 = .ok (.aload_n 0, 1) := by decide +kernel
theorem dX6_init_16 : decode cX6_init 16 = .ok (.new 7, 3) := by decide +kernel
theorem dX6_init_19 : decode cX6_init 19 = .ok (.dup, 1) := by decide +kernel
theorem dX6_init_20 : decode cX6_init 20 = .ok (.invokespecial 9, 3) := by decide +kernel
theorem dX6_init_23 : decode cX6_init 23 = .ok (.putfield 16, 3) := by decide +kernel
theorem dX6_init_26 : decode cX6_init 26 = .ok (.aload_n 0, 1) := by decide +kernel
theorem dX6_init_27 : decode cX6_init 27 = .ok (.new 19, 3) := by decide +kernel
theorem dX6_init_30 : decode cX6_init 30 = .ok (.dup, 1) := by decide +kernel
theorem dX6_init_31 : decode cX6_init 31 = .ok (.invokespecial 21, 3) := by decide +kernel
theorem dX6_init_34 : decode cX6_init 34 = .ok (.putfield 22, 3) := by decide +kernel
theorem dX6_init_37 : decode cX6_init 37 = .ok (.aload_n 0, 1) := by decide +kernel
theorem dX6_init_38 : decode cX6_init 38 = .ok (.new 26, 3) := by decide +kernel
theorem dX6_init_41 : decode cX6_init 41 = .ok (.dup, 1) := by decide +kernel
theorem dX6_init_42 : decode cX6_init 42 = .ok (.invokespecial 28, 3) := by decide +kernel
theorem dX6_init_45 : decode cX6_init 45 = .ok (.putfield 29, 3) := by decide +kernel
theorem dX6_init_48 : decode cX6_init 48 = .ok (.return_, 1) := by decide +kernel
set_option maxRecDepth 20000 in
theorem ggX6_assemble_X6_isPlace : GoodIn wsX6_assemble wsX6_isPlace := goodIn_r _ [11, 12, 13, 10, 14] (by decide +kernel) (by decide +kernel)
set_option maxRecDepth 20000 in
theorem gX6_assemble_X6_isPlace : GoodIn wsX6_assemble (va_wsS RX6 33 yX6_isPlace wsX6_isPlace) := goodIn_app (goodIn_of _ (by decide +kernel)) ggX6_assemble_X6_isPlace
set_option maxRecDepth 20000 in
theorem ggX6_assemble_X4_findFault : GoodIn wsX6_assemble wsX4_findFault := goodIn_r _ [19, 20, 21, 22, 23, 24, 25, 26, 18, 27, 28, 29, 30, 31, 32, 33, 34, 35, 36, 37, 38, 39, 40, 41, 42, 43, 44, 45, 46, 47, 48, 49, 50, 51, 52, 53, 54, 55, 56, 57, 58, 59, 60, 61, 62, 63, 64, 65, 66, 67, 68, 69, 70, 71, 72, 73, 74, 75, 76, 77, 78, 79, 80, 81, 82, 83, 84, 85, 86, 87, 88, 89, 90, 91, 92, 93, 94, 95, 96, 97, 98, 99, 100, 101, 102, 103, 104, 105, 106, 107, 108, 109, 110, 111, 112, 113, 114, 115, 116, 117, 118, 119, 120, 121, 122, 123, 124, 125, 126, 127, 128, 129, 130, 131, 132, 133, 134, 135, 13, 10, 14, 136, 137, 138, 139, 140, 141, 142, 143, 144, 145, 146, 147, 148, 149, 150, 151, 152, 153, 154, 155, 156, 223, 224, 225, 226, 227, 228, 238, 239] (by decide +kernel) (by decide +kernel)
set_option maxRecDepth 20000 in
theorem gX6_assemble_X4_findFault : GoodIn wsX6_assemble (wsV RX6 38 RX4 yX4_findFault wsX4_findFault) := goodIn_app (goodIn_of _ (by decide +kernel)) ggX6_assemble_X4_findFault
set_option maxRecDepth 20000 in
theorem ggX6_assemble_X1_remember : GoodIn wsX6_assemble wsX1_remember := goodIn_r _ [161, 162, 163, 164, 165, 62, 59, 63, 166, 167, 168, 169, 170, 171, 172, 173, 174, 175, 176, 177, 178, 179, 180, 181, 182, 183, 184, 185, 186, 187, 188, 189, 190, 191, 192, 193, 194, 195, 196, 197, 198, 199, 200, 201, 202, 203, 204, 205, 206, 207, 208, 209, 210, 211, 212, 213, 214, 215, 216, 217, 240, 241, 242, 229, 230, 231, 232, 233, 234, 235, 236, 237, 243, 244, 245, 246, 247, 248, 249, 250, 251, 252, 253, 238, 239, 254, 255, 256] (by decide +kernel) (by decide +kernel)
set_option maxRecDepth 20000 in
theorem gX6_assemble_X1_remember : GoodIn wsX6_assemble (wsV RX6 49 RX1 yX1_remember wsX1_remember) := goodIn_app (goodIn_of _ (by decide +kernel)) ggX6_assemble_X1_remember
set_option maxRecDepth 20000 in
theorem ggX6_assemble_X2_copyRows : GoodIn wsX6_assemble wsX2_copyRows := goodIn_r _ [205, 206, 207, 175, 176, 177, 208, 238, 239] (by decide +kernel) (by decide +kernel)
set_option maxRecDepth 20000 in
theorem gX6_assemble_X2_copyRows : GoodIn wsX6_assemble (wsV RX6 60 RX2 yX2_copyRows wsX2_copyRows) := goodIn_app (goodIn_of _ (by decide +kernel)) ggX6_assemble_X2_copyRows
theorem dX6_assemble_0 : decode cX6_assemble 0 = .ok (.iload_n 1, 1) := by decide +kernel
theorem dX6_assemble_1 : decode cX6_assemble 1 = .ok (.invokestatic 33, 3) := by decide +kernel
theorem dX6_assemble_4 : decode cX6_assemble 4 = .ok (.ifCond .ne 6, 3) := by decide +kernel
theorem dX6_assemble_7 : decode cX6_assemble 7 = .ok (.ldc 37, 2) := by decide +kernel
theorem dX6_assemble_9 : decode cX6_assemble 9 = .ok (.ireturn, 1) := by decide +kernel
theorem dX6_assemble_10 : decode cX6_assemble 10 = .ok (.aload_n 0, 1) := by decide +kernel
theorem dX6_assemble_11 : decode cX6_assemble 11 = .ok (.getfield 29, 3) := by decide +kernel
theorem dX6_assemble_14 : decode cX6_assemble 14 = .ok (.invokevirtual 38, 3) := by decide +kernel
theorem dX6_assemble_17 : decode cX6_assemble 17 = .ok (.ldc 42, 2) := by decide +kernel
theorem dX6_assemble_19 : decode cX6_assemble 19 = .ok (.if_icmp .eq 6, 3) := by decide +kernel
theorem dX6_assemble_22 : decode cX6_assemble 22 = .ok (.ldc 43, 2) := by decide +kernel
theorem dX6_assemble_24 : decode cX6_assemble 24 = .ok (.ireturn, 1) := by decide +kernel
theorem dX6_assemble_25 : decode cX6_assemble 25 = .ok (.aload_n 0, 1) := by decide +kernel
theorem dX6_assemble_26 : decode cX6_assemble 26 = .ok (.getfield 29, 3) := by decide +kernel
theorem dX6_assemble_29 : decode cX6_assemble 29 = .ok (.getfield 44, 3) := by decide +kernel
theorem dX6_assemble_32 : decode cX6_assemble 32 = .ok (.istore_n 2, 1) := by decide +kernel
theorem dX6_assemble_33 : decode cX6_assemble 33 = .ok (.iload_n 1, 1) := by decide +kernel
theorem dX6_assemble_34 : decode cX6_assemble 34 = .ok (.iload_n 2, 1) := by decide +kernel
theorem dX6_assemble_35 : decode cX6_assemble 35 = .ok (.iadd, 1) := by decide +kernel
theorem dX6_assemble_36 : decode cX6_assemble 36 = .ok (.bipush 48, 2) := by decide +kernel
theorem dX6_assemble_38 : decode cX6_assemble 38 = .ok (.if_icmp .le 6, 3) := by decide +kernel
theorem dX6_assemble_41 : decode cX6_assemble 41 = .ok (.ldc 48, 2) := by decide +kernel
theorem dX6_assemble_43 : decode cX6_assemble 43 = .ok (.ireturn, 1) := by decide +kernel
theorem dX6_assemble_44 : decode cX6_assemble 44 = .ok (.aload_n 0, 1) := by decide +kernel
theorem dX6_assemble_45 : decode cX6_assemble 45 = .ok (.getfield 22, 3) := by decide +kernel
theorem dX6_assemble_48 : decode cX6_assemble 48 = .ok (.aload_n 0, 1) := by decide +kernel
theorem dX6_assemble_49 : decode cX6_assemble 49 = .ok (.getfield 10, 3) := by decide +kernel
theorem dX6_assemble_52 : decode cX6_assemble 52 = .ok (.invokevirtual 49, 3) := by decide +kernel
theorem dX6_assemble_55 : decode cX6_assemble 55 = .ok (.aload_n 0, 1) := by decide +kernel
theorem dX6_assemble_56 : decode cX6_assemble 56 = .ok (.getfield 10, 3) := by decide +kernel
theorem dX6_assemble_59 : decode cX6_assemble 59 = .ok (.getfield 53, 3) := by decide +kernel
theorem dX6_assemble_62 : decode cX6_assemble 62 = .ok (.aload_n 0, 1) := by decide +kernel
theorem dX6_assemble_63 : decode cX6_assemble 63 = .ok (.getfield 29, 3) := by decide +kernel
theorem dX6_assemble_66 : decode cX6_assemble 66 = .ok (.getfield 57, 3) := by decide +kernel
theorem dX6_assemble_69 : decode cX6_assemble 69 = .ok (.iload_n 2, 1) := by decide +kernel
theorem dX6_assemble_70 : decode cX6_assemble 70 = .ok (.iload_n 1, 1) := by decide +kernel
theorem dX6_assemble_71 : decode cX6_assemble 71 = .ok (.invokevirtual 60, 3) := by decide +kernel
theorem dX6_assemble_74 : decode cX6_assemble 74 = .ok (.iload_n 2, 1) := by decide +kernel
theorem dX6_assemble_75 : decode cX6_assemble 75 = .ok (.ireturn, 1) := by decide +kernel
set_option maxRecDepth 20000 in
theorem ggX6_start_X6_isThread : GoodIn wsX6_start wsX6_isThread := goodIn_r _ [7, 8, 9, 6, 10] (by decide +kernel) (by decide +kernel)
set_option maxRecDepth 20000 in
theorem gX6_start_X6_isThread : GoodIn wsX6_start (va_wsS RX6 66 yX6_isThread wsX6_isThread) := goodIn_app (goodIn_of _ (by decide +kernel)) ggX6_start_X6_isThread
set_option maxRecDepth 20000 in
theorem ggX6_start_X6_isPlace : GoodIn wsX6_start wsX6_isPlace := goodIn_r _ [13, 8, 9, 6, 10] (by decide +kernel) (by decide +kernel)
set_option maxRecDepth 20000 in
theorem gX6_start_X6_isPlace : GoodIn wsX6_start (va_wsS RX6 33 yX6_isPlace wsX6_isPlace) := goodIn_app (goodIn_of _ (by decide +kernel)) ggX6_start_X6_isPlace
set_option maxRecDepth 20000 in
theorem ggX6_start_X1_remember : GoodIn wsX6_start wsX1_remember := goodIn_r _ [18, 19, 20, 21, 22, 23, 24, 25, 26, 27, 28, 29, 30, 31, 32, 33, 34, 35, 36, 37, 38, 39, 40, 41, 42, 43, 44, 45, 46, 47, 48, 49, 50, 51, 52, 53, 54, 55, 56, 57, 58, 59, 60, 61, 62, 63, 64, 65, 66, 67, 68, 69, 70, 71, 72, 73, 74, 75, 76, 77, 110, 111, 112, 90, 91, 92, 93, 94, 95, 96, 97, 98, 99, 100, 101, 102, 103, 104, 105, 106, 107, 108, 109, 113, 114, 115, 116, 117] (by decide +kernel) (by decide +kernel)
set_option maxRecDepth 20000 in
theorem gX6_start_X1_remember : GoodIn wsX6_start (wsV RX6 49 RX1 yX1_remember wsX1_remember) := goodIn_app (goodIn_of _ (by decide +kernel)) ggX6_start_X1_remember
set_option maxRecDepth 20000 in
theorem ggX6_start_X0_startAt : GoodIn wsX6_start wsX0_startAt := goodIn_r _ [81, 49, 51, 52, 56, 59, 82, 83, 84, 85, 99, 100, 101, 102, 103, 104, 105, 106, 107, 108, 109] (by decide +kernel) (by decide +kernel)
set_option maxRecDepth 20000 in
theorem gX6_start_X0_startAt : GoodIn wsX6_start (wsV RX6 78 RX0 yX0_startAt wsX0_startAt) := goodIn_app (goodIn_of _ (by decide +kernel)) ggX6_start_X0_startAt
theorem dX6_start_0 : decode cX6_start 0 = .ok (.iload_n 1, 1) := by decide +kernel
theorem dX6_start_1 : decode cX6_start 1 = .ok (.invokestatic 66, 3) := by decide +kernel
theorem dX6_start_4 : decode cX6_start 4 = .ok (.ifCond .eq 10, 3) := by decide +kernel
theorem dX6_start_7 : decode cX6_start 7 = .ok (.iload_n 2, 1) := by decide +kernel
theorem dX6_start_8 : decode cX6_start 8 = .ok (.invokestatic 33, 3) := by decide +kernel
theorem dX6_start_11 : decode cX6_start 11 = .ok (.ifCond .ne 6, 3) := by decide +kernel
theorem dX6_start_14 : decode cX6_start 14 = .ok (.ldc 37, 2) := by decide +kernel
theorem dX6_start_16 : decode cX6_start 16 = .ok (.ireturn, 1) := by decide +kernel
theorem dX6_start_17 : decode cX6_start 17 = .ok (.aload_n 0, 1) := by decide +kernel
theorem dX6_start_18 : decode cX6_start 18 = .ok (.getfield 22, 3) := by decide +kernel
theorem dX6_start_21 : decode cX6_start 21 = .ok (.aload_n 0, 1) := by decide +kernel
theorem dX6_start_22 : decode cX6_start 22 = .ok (.getfield 10, 3) := by decide +kernel
theorem dX6_start_25 : decode cX6_start 25 = .ok (.invokevirtual 49, 3) := by decide +kernel
theorem dX6_start_28 : decode cX6_start 28 = .ok (.aload_n 0, 1) := by decide +kernel
theorem dX6_start_29 : decode cX6_start 29 = .ok (.getfield 10, 3) := by decide +kernel
theorem dX6_start_32 : decode cX6_start 32 = .ok (.getfield 69, 3) := by decide +kernel
theorem dX6_start_35 : decode cX6_start 35 = .ok (.iload_n 1, 1) := by decide +kernel
theorem dX6_start_36 : decode cX6_start 36 = .ok (.aaload, 1) := by decide +kernel
theorem dX6_start_37 : decode cX6_start 37 = .ok (.getfield 73, 3) := by decide +kernel
theorem dX6_start_40 : decode cX6_start 40 = .ok (.istore_n 3, 1) := by decide +kernel
theorem dX6_start_41 : decode cX6_start 41 = .ok (.aload_n 0, 1) := by decide +kernel
theorem dX6_start_42 : decode cX6_start 42 = .ok (.getfield 10, 3) := by decide +kernel
theorem dX6_start_45 : decode cX6_start 45 = .ok (.getfield 69, 3) := by decide +kernel
theorem dX6_start_48 : decode cX6_start 48 = .ok (.iload_n 1, 1) := by decide +kernel
theorem dX6_start_49 : decode cX6_start 49 = .ok (.aaload, 1) := by decide +kernel
theorem dX6_start_50 : decode cX6_start 50 = .ok (.iload_n 2, 1) := by decide +kernel
theorem dX6_start_51 : decode cX6_start 51 = .ok (.invokevirtual 78, 3) := by decide +kernel
theorem dX6_start_54 : decode cX6_start 54 = .ok (.iload_n 3, 1) := by decide +kernel
theorem dX6_start_55 : decode cX6_start 55 = .ok (.ireturn, 1) := by decide +kernel
set_option maxRecDepth 20000 in
theorem ggX6_halt_X6_isThread : GoodIn wsX6_halt wsX6_isThread := goodIn_r _ [7, 8, 9, 6, 10] (by decide +kernel) (by decide +kernel)
set_option maxRecDepth 20000 in
theorem gX6_halt_X6_isThread : GoodIn wsX6_halt (va_wsS RX6 66 yX6_isThread wsX6_isThread) := goodIn_app (goodIn_of _ (by decide +kernel)) ggX6_halt_X6_isThread
set_option maxRecDepth 20000 in
theorem ggX6_halt_X1_remember : GoodIn wsX6_halt wsX1_remember := goodIn_r _ [15, 16, 17, 18, 19, 20, 21, 22, 23, 24, 25, 26, 27, 28, 29, 30, 31, 32, 33, 34, 35, 36, 37, 38, 39, 40, 41, 42, 43, 44, 45, 46, 47, 48, 49, 50, 51, 52, 53, 54, 55, 56, 57, 58, 59, 60, 61, 62, 63, 64, 65, 66, 67, 68, 69, 70, 71, 72, 73, 74, 103, 104, 105, 83, 84, 85, 86, 87, 88, 89, 90, 91, 92, 93, 94, 95, 96, 97, 98, 99, 100, 101, 102, 106, 107, 108, 109, 110] (by decide +kernel) (by decide +kernel)
set_option maxRecDepth 20000 in
theorem gX6_halt_X1_remember : GoodIn wsX6_halt (wsV RX6 49 RX1 yX1_remember wsX1_remember) := goodIn_app (goodIn_of _ (by decide +kernel)) ggX6_halt_X1_remember
set_option maxRecDepth 20000 in
theorem ggX6_halt_X0_haltNow : GoodIn wsX6_halt wsX0_haltNow := goodIn_r _ [78, 48, 56, 92, 93, 94, 95, 96, 97, 98, 99, 100, 101, 102] (by decide +kernel) (by decide +kernel)
set_option maxRecDepth 20000 in
theorem gX6_halt_X0_haltNow : GoodIn wsX6_halt (wsV RX6 82 RX0 yX0_haltNow wsX0_haltNow) := goodIn_app (goodIn_of _ (by decide +kernel)) ggX6_halt_X0_haltNow
theorem dX6_halt_0 : decode cX6_halt 0 = .ok (.iload_n 1, 1) := by decide +kernel
theorem dX6_halt_1 : decode cX6_halt 1 = .ok (.invokestatic 66, 3) := by decide +kernel
theorem dX6_halt_4 : decode cX6_halt 4 = .ok (.ifCond .ne 6, 3) := by decide +kernel
theorem dX6_halt_7 : decode cX6_halt 7 = .ok (.ldc 37, 2) := by decide +kernel
theorem dX6_halt_9 : decode cX6_halt 9 = .ok (.ireturn, 1) := by decide +kernel
theorem dX6_halt_10 : decode cX6_halt 10 = .ok (.aload_n 0, 1) := by decide +kernel
theorem dX6_halt_11 : decode cX6_halt 11 = .ok (.getfield 22, 3) := by decide +kernel
theorem dX6_halt_14 : decode cX6_halt 14 = .ok (.aload_n 0, 1) := by decide +kernel
theorem dX6_halt_15 : decode cX6_halt 15 = .ok (.getfield 10, 3) := by decide +kernel
theorem dX6_halt_18 : decode cX6_halt 18 = .ok (.invokevirtual 49, 3) := by decide +kernel
theorem dX6_halt_21 : decode cX6_halt 21 = .ok (.aload_n 0, 1) := by decide +kernel
theorem dX6_halt_22 : decode cX6_halt 22 = .ok (.getfield 10, 3) := by decide +kernel
theorem dX6_halt_25 : decode cX6_halt 25 = .ok (.getfield 69, 3) := by decide +kernel
theorem dX6_halt_28 : decode cX6_halt 28 = .ok (.iload_n 1, 1) := by decide +kernel
theorem dX6_halt_29 : decode cX6_halt 29 = .ok (.aaload, 1) := by decide +kernel
theorem dX6_halt_30 : decode cX6_halt 30 = .ok (.getfield 73, 3) := by decide +kernel
theorem dX6_halt_33 : decode cX6_halt 33 = .ok (.istore_n 2, 1) := by decide +kernel
theorem dX6_halt_34 : decode cX6_halt 34 = .ok (.aload_n 0, 1) := by decide +kernel
theorem dX6_halt_35 : decode cX6_halt 35 = .ok (.getfield 10, 3) := by decide +kernel
theorem dX6_halt_38 : decode cX6_halt 38 = .ok (.getfield 69, 3) := by decide +kernel
theorem dX6_halt_41 : decode cX6_halt 41 = .ok (.iload_n 1, 1) := by decide +kernel
theorem dX6_halt_42 : decode cX6_halt 42 = .ok (.aaload, 1) := by decide +kernel
theorem dX6_halt_43 : decode cX6_halt 43 = .ok (.invokevirtual 82, 3) := by decide +kernel
theorem dX6_halt_46 : decode cX6_halt 46 = .ok (.iload_n 2, 1) := by decide +kernel
theorem dX6_halt_47 : decode cX6_halt 47 = .ok (.ireturn, 1) := by decide +kernel
set_option maxRecDepth 20000 in
theorem ggX6_setRegister_X6_isThread : GoodIn wsX6_setRegister wsX6_isThread := goodIn_r _ [8, 9, 10, 7, 11] (by decide +kernel) (by decide +kernel)
set_option maxRecDepth 20000 in
theorem gX6_setRegister_X6_isThread : GoodIn wsX6_setRegister (va_wsS RX6 66 yX6_isThread wsX6_isThread) := goodIn_app (goodIn_of _ (by decide +kernel)) ggX6_setRegister_X6_isThread
set_option maxRecDepth 20000 in
theorem ggX6_setRegister_X6_isRegister : GoodIn wsX6_setRegister wsX6_isRegister := goodIn_r _ [14, 9, 10, 7, 11] (by decide +kernel) (by decide +kernel)
set_option maxRecDepth 20000 in
theorem gX6_setRegister_X6_isRegister : GoodIn wsX6_setRegister (va_wsS RX6 85 yX6_isRegister wsX6_isRegister) := goodIn_app (goodIn_of _ (by decide +kernel)) ggX6_setRegister_X6_isRegister
set_option maxRecDepth 20000 in
theorem ggX6_setRegister_X6_isValue : GoodIn wsX6_setRegister wsX6_isValue := goodIn_r _ [17, 9, 10, 7, 11] (by decide +kernel) (by decide +kernel)
set_option maxRecDepth 20000 in
theorem gX6_setRegister_X6_isValue : GoodIn wsX6_setRegister (va_wsS RX6 88 yX6_isValue wsX6_isValue) := goodIn_app (goodIn_of _ (by decide +kernel)) ggX6_setRegister_X6_isValue
set_option maxRecDepth 20000 in
theorem ggX6_setRegister_X1_remember : GoodIn wsX6_setRegister wsX1_remember := goodIn_r _ [22, 23, 24, 25, 26, 27, 28, 29, 30, 31, 32, 33, 34, 35, 36, 37, 38, 39, 40, 41, 42, 43, 44, 45, 46, 47, 48, 49, 50, 51, 52, 53, 54, 55, 56, 57, 58, 59, 60, 61, 62, 63, 64, 65, 66, 67, 68, 69, 70, 71, 72, 73, 74, 75, 76, 77, 78, 79, 80, 81, 109, 110, 111, 89, 90, 91, 92, 93, 94, 95, 96, 97, 98, 99, 100, 101, 102, 103, 104, 105, 106, 107, 108, 112, 113, 114, 115, 116] (by decide +kernel) (by decide +kernel)
set_option maxRecDepth 20000 in
theorem gX6_setRegister_X1_remember : GoodIn wsX6_setRegister (wsV RX6 49 RX1 yX1_remember wsX1_remember) := goodIn_app (goodIn_of _ (by decide +kernel)) ggX6_setRegister_X1_remember
set_option maxRecDepth 20000 in
theorem ggX6_setRegister_X6_replace : GoodIn wsX6_setRegister wsX6_replace := goodIn_r _ [84] (by decide +kernel) (by decide +kernel)
set_option maxRecDepth 20000 in
theorem gX6_setRegister_X6_replace : GoodIn wsX6_setRegister (va_wsS RX6 96 yX6_replace wsX6_replace) := goodIn_app (goodIn_of _ (by decide +kernel)) ggX6_setRegister_X6_replace
theorem dX6_setRegister_0 : decode cX6_setRegister 0 = .ok (.iload_n 1, 1) := by decide +kernel
theorem dX6_setRegister_1 : decode cX6_setRegister 1 = .ok (.invokestatic 66, 3) := by decide +kernel
theorem dX6_setRegister_4 : decode cX6_setRegister 4 = .ok (.ifCond .eq 10, 3) := by decide +kernel
theorem dX6_setRegister_7 : decode cX6_setRegister 7 = .ok (.iload_n 2, 1) := by decide +kernel
theorem dX6_setRegister_8 : decode cX6_setRegister 8 = .ok (.invokestatic 85, 3) := by decide +kernel
theorem dX6_setRegister_11 : decode cX6_setRegister 11 = .ok (.ifCond .ne 6, 3) := by decide +kernel
theorem dX6_setRegister_14 : decode cX6_setRegister 14 = .ok (.ldc 37, 2) := by decide +kernel
theorem dX6_setRegister_16 : decode cX6_setRegister 16 = .ok (.ireturn, 1) := by decide +kernel
theorem dX6_setRegister_17 : decode cX6_setRegister 17 = .ok (.iload_n 3, 1) := by decide +kernel
theorem dX6_setRegister_18 : decode cX6_setRegister 18 = .ok (.invokestatic 88, 3) := by decide +kernel
theorem dX6_setRegister_21 : decode cX6_setRegister 21 = .ok (.ifCond .ne 6, 3) := by decide +kernel
theorem dX6_setRegister_24 : decode cX6_setRegister 24 = .ok (.ldc 91, 2) := by decide +kernel
theorem dX6_setRegister_26 : decode cX6_setRegister 26 = .ok (.ireturn, 1) := by decide +kernel
theorem dX6_setRegister_27 : decode cX6_setRegister 27 = .ok (.aload_n 0, 1) := by decide +kernel
theorem dX6_setRegister_28 : decode cX6_setRegister 28 = .ok (.getfield 22, 3) := by decide +kernel
theorem dX6_setRegister_31 : decode cX6_setRegister 31 = .ok (.aload_n 0, 1) := by decide +kernel
theorem dX6_setRegister_32 : decode cX6_setRegister 32 = .ok (.getfield 10, 3) := by decide +kernel
theorem dX6_setRegister_35 : decode cX6_setRegister 35 = .ok (.invokevirtual 49, 3) := by decide +kernel
theorem dX6_setRegister_38 : decode cX6_setRegister 38 = .ok (.aload_n 0, 1) := by decide +kernel
theorem dX6_setRegister_39 : decode cX6_setRegister 39 = .ok (.getfield 10, 3) := by decide +kernel
theorem dX6_setRegister_42 : decode cX6_setRegister 42 = .ok (.getfield 69, 3) := by decide +kernel
theorem dX6_setRegister_45 : decode cX6_setRegister 45 = .ok (.iload_n 1, 1) := by decide +kernel
theorem dX6_setRegister_46 : decode cX6_setRegister 46 = .ok (.aaload, 1) := by decide +kernel
theorem dX6_setRegister_47 : decode cX6_setRegister 47 = .ok (.getfield 92, 3) := by decide +kernel
theorem dX6_setRegister_50 : decode cX6_setRegister 50 = .ok (.iload_n 2, 1) := by decide +kernel
theorem dX6_setRegister_51 : decode cX6_setRegister 51 = .ok (.iload_n 3, 1) := by decide +kernel
theorem dX6_setRegister_52 : decode cX6_setRegister 52 = .ok (.invokestatic 96, 3) := by decide +kernel
theorem dX6_setRegister_55 : decode cX6_setRegister 55 = .ok (.ireturn, 1) := by decide +kernel
set_option maxRecDepth 20000 in
theorem ggX6_setWord_X6_isWord : GoodIn wsX6_setWord wsX6_isWord := goodIn_r _ [8, 9, 10, 7, 11] (by decide +kernel) (by decide +kernel)
set_option maxRecDepth 20000 in
theorem gX6_setWord_X6_isWord : GoodIn wsX6_setWord (va_wsS RX6 100 yX6_isWord wsX6_isWord) := goodIn_app (goodIn_of _ (by decide +kernel)) ggX6_setWord_X6_isWord
set_option maxRecDepth 20000 in
theorem ggX6_setWord_X6_isValue : GoodIn wsX6_setWord wsX6_isValue := goodIn_r _ [14, 9, 10, 7, 11] (by decide +kernel) (by decide +kernel)
set_option maxRecDepth 20000 in
theorem gX6_setWord_X6_isValue : GoodIn wsX6_setWord (va_wsS RX6 88 yX6_isValue wsX6_isValue) := goodIn_app (goodIn_of _ (by decide +kernel)) ggX6_setWord_X6_isValue
set_option maxRecDepth 20000 in
theorem ggX6_setWord_X1_remember : GoodIn wsX6_setWord wsX1_remember := goodIn_r _ [19, 20, 21, 22, 23, 24, 25, 26, 27, 28, 29, 30, 31, 32, 33, 34, 35, 36, 37, 38, 39, 40, 41, 42, 43, 44, 45, 46, 47, 48, 49, 50, 51, 52, 53, 54, 55, 56, 57, 58, 59, 60, 61, 62, 63, 64, 65, 66, 67, 68, 69, 70, 71, 72, 73, 74, 75, 76, 77, 78, 95, 96, 97, 86, 87, 88, 89, 90, 91, 92, 93, 94, 98, 99, 100, 101, 102, 103, 104, 105, 106, 107, 108, 109, 110, 111, 112, 113] (by decide +kernel) (by decide +kernel)
set_option maxRecDepth 20000 in
theorem gX6_setWord_X1_remember : GoodIn wsX6_setWord (wsV RX6 49 RX1 yX1_remember wsX1_remember) := goodIn_app (goodIn_of _ (by decide +kernel)) ggX6_setWord_X1_remember
set_option maxRecDepth 20000 in
theorem ggX6_setWord_X6_replace : GoodIn wsX6_setWord wsX6_replace := goodIn_r _ [81] (by decide +kernel) (by decide +kernel)
set_option maxRecDepth 20000 in
theorem gX6_setWord_X6_replace : GoodIn wsX6_setWord (va_wsS RX6 96 yX6_replace wsX6_replace) := goodIn_app (goodIn_of _ (by decide +kernel)) ggX6_setWord_X6_replace
theorem dX6_setWord_0 : decode cX6_setWord 0 = .ok (.iload_n 1, 1) := by decide +kernel
theorem dX6_setWord_1 : decode cX6_setWord 1 = .ok (.invokestatic 100, 3) := by decide +kernel
theorem dX6_setWord_4 : decode cX6_setWord 4 = .ok (.ifCond .ne 6, 3) := by decide +kernel
theorem dX6_setWord_7 : decode cX6_setWord 7 = .ok (.ldc 37, 2) := by decide +kernel
theorem dX6_setWord_9 : decode cX6_setWord 9 = .ok (.ireturn, 1) := by decide +kernel
theorem dX6_setWord_10 : decode cX6_setWord 10 = .ok (.iload_n 2, 1) := by decide +kernel
theorem dX6_setWord_11 : decode cX6_setWord 11 = .ok (.invokestatic 88, 3) := by decide +kernel
theorem dX6_setWord_14 : decode cX6_setWord 14 = .ok (.ifCond .ne 6, 3) := by decide +kernel
theorem dX6_setWord_17 : decode cX6_setWord 17 = .ok (.ldc 91, 2) := by decide +kernel
theorem dX6_setWord_19 : decode cX6_setWord 19 = .ok (.ireturn, 1) := by decide +kernel
theorem dX6_setWord_20 : decode cX6_setWord 20 = .ok (.aload_n 0, 1) := by decide +kernel
theorem dX6_setWord_21 : decode cX6_setWord 21 = .ok (.getfield 22, 3) := by decide +kernel
theorem dX6_setWord_24 : decode cX6_setWord 24 = .ok (.aload_n 0, 1) := by decide +kernel
theorem dX6_setWord_25 : decode cX6_setWord 25 = .ok (.getfield 10, 3) := by decide +kernel
theorem dX6_setWord_28 : decode cX6_setWord 28 = .ok (.invokevirtual 49, 3) := by decide +kernel
theorem dX6_setWord_31 : decode cX6_setWord 31 = .ok (.aload_n 0, 1) := by decide +kernel
theorem dX6_setWord_32 : decode cX6_setWord 32 = .ok (.getfield 10, 3) := by decide +kernel
theorem dX6_setWord_35 : decode cX6_setWord 35 = .ok (.getfield 103, 3) := by decide +kernel
theorem dX6_setWord_38 : decode cX6_setWord 38 = .ok (.iload_n 1, 1) := by decide +kernel
theorem dX6_setWord_39 : decode cX6_setWord 39 = .ok (.iload_n 2, 1) := by decide +kernel
theorem dX6_setWord_40 : decode cX6_setWord 40 = .ok (.invokestatic 96, 3) := by decide +kernel
theorem dX6_setWord_43 : decode cX6_setWord 43 = .ok (.ireturn, 1) := by decide +kernel
set_option maxRecDepth 20000 in
theorem ggX6_setSlot_X6_isSlot : GoodIn wsX6_setSlot wsX6_isSlot := goodIn_r _ [7, 8, 9, 6, 10] (by decide +kernel) (by decide +kernel)
set_option maxRecDepth 20000 in
theorem gX6_setSlot_X6_isSlot : GoodIn wsX6_setSlot (va_wsS RX6 106 yX6_isSlot wsX6_isSlot) := goodIn_app (goodIn_of _ (by decide +kernel)) ggX6_setSlot_X6_isSlot
set_option maxRecDepth 20000 in
theorem ggX6_setSlot_X6_isThread : GoodIn wsX6_setSlot wsX6_isThread := goodIn_r _ [13, 8, 9, 6, 10] (by decide +kernel) (by decide +kernel)
set_option maxRecDepth 20000 in
theorem gX6_setSlot_X6_isThread : GoodIn wsX6_setSlot (va_wsS RX6 66 yX6_isThread wsX6_isThread) := goodIn_app (goodIn_of _ (by decide +kernel)) ggX6_setSlot_X6_isThread
set_option maxRecDepth 20000 in
theorem ggX6_setSlot_X1_remember : GoodIn wsX6_setSlot wsX1_remember := goodIn_r _ [18, 19, 20, 21, 22, 23, 24, 25, 26, 27, 28, 29, 30, 31, 32, 33, 34, 35, 36, 37, 38, 39, 40, 41, 42, 43, 44, 45, 46, 47, 48, 49, 50, 51, 52, 53, 54, 55, 56, 57, 58, 59, 60, 61, 62, 63, 64, 65, 66, 67, 68, 69, 70, 71, 72, 73, 74, 75, 76, 77, 94, 95, 96, 85, 86, 87, 88, 89, 90, 91, 92, 93, 97, 98, 99, 100, 101, 102, 103, 104, 105, 106, 107, 108, 109, 110, 111, 112] (by decide +kernel) (by decide +kernel)
set_option maxRecDepth 20000 in
theorem gX6_setSlot_X1_remember : GoodIn wsX6_setSlot (wsV RX6 49 RX1 yX1_remember wsX1_remember) := goodIn_app (goodIn_of _ (by decide +kernel)) ggX6_setSlot_X1_remember
set_option maxRecDepth 20000 in
theorem ggX6_setSlot_X6_replace : GoodIn wsX6_setSlot wsX6_replace := goodIn_r _ [80] (by decide +kernel) (by decide +kernel)
set_option maxRecDepth 20000 in
theorem gX6_setSlot_X6_replace : GoodIn wsX6_setSlot (va_wsS RX6 96 yX6_replace wsX6_replace) := goodIn_app (goodIn_of _ (by decide +kernel)) ggX6_setSlot_X6_replace
theorem dX6_setSlot_0 : decode cX6_setSlot 0 = .ok (.iload_n 1, 1) := by decide +kernel
theorem dX6_setSlot_1 : decode cX6_setSlot 1 = .ok (.invokestatic 106, 3) := by decide +kernel
theorem dX6_setSlot_4 : decode cX6_setSlot 4 = .ok (.ifCond .eq 10, 3) := by decide +kernel
theorem dX6_setSlot_7 : decode cX6_setSlot 7 = .ok (.iload_n 2, 1) := by decide +kernel
theorem dX6_setSlot_8 : decode cX6_setSlot 8 = .ok (.invokestatic 66, 3) := by decide +kernel
theorem dX6_setSlot_11 : decode cX6_setSlot 11 = .ok (.ifCond .ne 6, 3) := by decide +kernel
theorem dX6_setSlot_14 : decode cX6_setSlot 14 = .ok (.ldc 37, 2) := by decide +kernel
theorem dX6_setSlot_16 : decode cX6_setSlot 16 = .ok (.ireturn, 1) := by decide +kernel
theorem dX6_setSlot_17 : decode cX6_setSlot 17 = .ok (.aload_n 0, 1) := by decide +kernel
theorem dX6_setSlot_18 : decode cX6_setSlot 18 = .ok (.getfield 22, 3) := by decide +kernel
theorem dX6_setSlot_21 : decode cX6_setSlot 21 = .ok (.aload_n 0, 1) := by decide +kernel
theorem dX6_setSlot_22 : decode cX6_setSlot 22 = .ok (.getfield 10, 3) := by decide +kernel
theorem dX6_setSlot_25 : decode cX6_setSlot 25 = .ok (.invokevirtual 49, 3) := by decide +kernel
theorem dX6_setSlot_28 : decode cX6_setSlot 28 = .ok (.aload_n 0, 1) := by decide +kernel
theorem dX6_setSlot_29 : decode cX6_setSlot 29 = .ok (.getfield 10, 3) := by decide +kernel
theorem dX6_setSlot_32 : decode cX6_setSlot 32 = .ok (.getfield 109, 3) := by decide +kernel
theorem dX6_setSlot_35 : decode cX6_setSlot 35 = .ok (.iload_n 1, 1) := by decide +kernel
theorem dX6_setSlot_36 : decode cX6_setSlot 36 = .ok (.iload_n 2, 1) := by decide +kernel
theorem dX6_setSlot_37 : decode cX6_setSlot 37 = .ok (.invokestatic 96, 3) := by decide +kernel
theorem dX6_setSlot_40 : decode cX6_setSlot 40 = .ok (.ireturn, 1) := by decide +kernel
set_option maxRecDepth 20000 in
theorem ggX6_set_X6_isSetting : GoodIn wsX6_set wsX6_isSetting := goodIn_r _ [8, 9, 10, 7, 11] (by decide +kernel) (by decide +kernel)
set_option maxRecDepth 20000 in
theorem gX6_set_X6_isSetting : GoodIn wsX6_set (va_wsS RX6 112 yX6_isSetting wsX6_isSetting) := goodIn_app (goodIn_of _ (by decide +kernel)) ggX6_set_X6_isSetting
set_option maxRecDepth 20000 in
theorem ggX6_set_X6_isWithin : GoodIn wsX6_set wsX6_isWithin := goodIn_r _ [11] (by decide +kernel) (by decide +kernel)
set_option maxRecDepth 20000 in
theorem gX6_set_X6_isWithin : GoodIn wsX6_set (va_wsS RX6 115 yX6_isWithin wsX6_isWithin) := goodIn_app (goodIn_of _ (by decide +kernel)) ggX6_set_X6_isWithin
set_option maxRecDepth 20000 in
theorem ggX6_set_X1_remember : GoodIn wsX6_set wsX1_remember := goodIn_r _ [16, 17, 18, 19, 20, 21, 22, 23, 24, 25, 26, 27, 28, 29, 30, 31, 32, 33, 34, 35, 36, 37, 38, 39, 40, 41, 42, 43, 44, 45, 46, 47, 48, 49, 50, 51, 52, 53, 54, 55, 56, 57, 58, 59, 60, 61, 62, 63, 64, 65, 66, 67, 68, 69, 70, 71, 72, 73, 74, 75, 92, 93, 94, 83, 84, 85, 86, 87, 88, 89, 90, 91, 95, 96, 97, 98, 99, 100, 101, 102, 103, 104, 105, 106, 107, 108, 109, 110] (by decide +kernel) (by decide +kernel)
set_option maxRecDepth 20000 in
theorem gX6_set_X1_remember : GoodIn wsX6_set (wsV RX6 49 RX1 yX1_remember wsX1_remember) := goodIn_app (goodIn_of _ (by decide +kernel)) ggX6_set_X1_remember
set_option maxRecDepth 20000 in
theorem ggX6_set_X6_replace : GoodIn wsX6_set wsX6_replace := goodIn_r _ [78] (by decide +kernel) (by decide +kernel)
set_option maxRecDepth 20000 in
theorem gX6_set_X6_replace : GoodIn wsX6_set (va_wsS RX6 96 yX6_replace wsX6_replace) := goodIn_app (goodIn_of _ (by decide +kernel)) ggX6_set_X6_replace
theorem dX6_set_0 : decode cX6_set 0 = .ok (.iload_n 1, 1) := by decide +kernel
theorem dX6_set_1 : decode cX6_set 1 = .ok (.invokestatic 112, 3) := by decide +kernel
theorem dX6_set_4 : decode cX6_set 4 = .ok (.ifCond .ne 6, 3) := by decide +kernel
theorem dX6_set_7 : decode cX6_set 7 = .ok (.ldc 37, 2) := by decide +kernel
theorem dX6_set_9 : decode cX6_set 9 = .ok (.ireturn, 1) := by decide +kernel
theorem dX6_set_10 : decode cX6_set 10 = .ok (.iload_n 2, 1) := by decide +kernel
theorem dX6_set_11 : decode cX6_set 11 = .ok (.iconst 0, 1) := by decide +kernel
theorem dX6_set_12 : decode cX6_set 12 = .ok (.iload_n 1, 1) := by decide +kernel
theorem dX6_set_13 : decode cX6_set 13 = .ok (.ifCond .ne 8, 3) := by decide +kernel
theorem dX6_set_16 : decode cX6_set 16 = .ok (.bipush 20, 2) := by decide +kernel
theorem dX6_set_18 : decode cX6_set 18 = .ok (.goto 4, 3) := by decide +kernel
theorem dX6_set_21 : decode cX6_set 21 = .ok (.iconst 2, 1) := by decide +kernel
theorem dX6_set_22 : decode cX6_set 22 = .ok (.invokestatic 115, 3) := by decide +kernel
theorem dX6_set_25 : decode cX6_set 25 = .ok (.ifCond .ne 6, 3) := by decide +kernel
theorem dX6_set_28 : decode cX6_set 28 = .ok (.ldc 91, 2) := by decide +kernel
theorem dX6_set_30 : decode cX6_set 30 = .ok (.ireturn, 1) := by decide +kernel
theorem dX6_set_31 : decode cX6_set 31 = .ok (.aload_n 0, 1) := by decide +kernel
theorem dX6_set_32 : decode cX6_set 32 = .ok (.getfield 22, 3) := by decide +kernel
theorem dX6_set_35 : decode cX6_set 35 = .ok (.aload_n 0, 1) := by decide +kernel
theorem dX6_set_36 : decode cX6_set 36 = .ok (.getfield 10, 3) := by decide +kernel
theorem dX6_set_39 : decode cX6_set 39 = .ok (.invokevirtual 49, 3) := by decide +kernel
theorem dX6_set_42 : decode cX6_set 42 = .ok (.aload_n 0, 1) := by decide +kernel
theorem dX6_set_43 : decode cX6_set 43 = .ok (.getfield 10, 3) := by decide +kernel
theorem dX6_set_46 : decode cX6_set 46 = .ok (.getfield 119, 3) := by decide +kernel
theorem dX6_set_49 : decode cX6_set 49 = .ok (.iload_n 1, 1) := by decide +kernel
theorem dX6_set_50 : decode cX6_set 50 = .ok (.iload_n 2, 1) := by decide +kernel
theorem dX6_set_51 : decode cX6_set 51 = .ok (.invokestatic 96, 3) := by decide +kernel
theorem dX6_set_54 : decode cX6_set 54 = .ok (.ireturn, 1) := by decide +kernel
set_option maxRecDepth 20000 in
theorem ggX6_setBreakpoint_X6_isPlace : GoodIn wsX6_setBreakpoint wsX6_isPlace := goodIn_r _ [7, 8, 9, 6, 10] (by decide +kernel) (by decide +kernel)
set_option maxRecDepth 20000 in
theorem gX6_setBreakpoint_X6_isPlace : GoodIn wsX6_setBreakpoint (va_wsS RX6 33 yX6_isPlace wsX6_isPlace) := goodIn_app (goodIn_of _ (by decide +kernel)) ggX6_setBreakpoint_X6_isPlace
set_option maxRecDepth 20000 in
theorem ggX6_setBreakpoint_X1_remember : GoodIn wsX6_setBreakpoint wsX1_remember := goodIn_r _ [15, 16, 17, 18, 19, 20, 21, 22, 23, 24, 25, 26, 27, 28, 29, 30, 31, 32, 33, 34, 35, 36, 37, 38, 39, 40, 41, 42, 43, 44, 45, 46, 47, 48, 49, 50, 51, 52, 53, 54, 55, 56, 57, 58, 59, 60, 61, 62, 63, 64, 65, 66, 67, 68, 69, 70, 71, 72, 73, 74, 92, 93, 94, 83, 84, 85, 86, 87, 88, 89, 90, 91, 95, 96, 97, 98, 99, 100, 101, 102, 103, 104, 105, 106, 107, 108, 109, 110] (by decide +kernel) (by decide +kernel)
set_option maxRecDepth 20000 in
theorem gX6_setBreakpoint_X1_remember : GoodIn wsX6_setBreakpoint (wsV RX6 49 RX1 yX1_remember wsX1_remember) := goodIn_app (goodIn_of _ (by decide +kernel)) ggX6_setBreakpoint_X1_remember
set_option maxRecDepth 20000 in
theorem ggX6_setBreakpoint_X3_countBreakpoints : GoodIn wsX6_setBreakpoint wsX3_countBreakpoints := goodIn_r _ [78, 30, 83, 84, 85, 86, 87, 88, 89, 90, 91] (by decide +kernel) (by decide +kernel)
set_option maxRecDepth 20000 in
theorem gX6_setBreakpoint_X3_countBreakpoints : GoodIn wsX6_setBreakpoint (wsV RX6 125 RX3 yX3_countBreakpoints wsX3_countBreakpoints) := goodIn_app (goodIn_of _ (by decide +kernel)) ggX6_setBreakpoint_X3_countBreakpoints
theorem dX6_setBreakpoint_0 : decode cX6_setBreakpoint 0 = .ok (.iload_n 1, 1) := by decide +kernel
theorem dX6_setBreakpoint_1 : decode cX6_setBreakpoint 1 = .ok (.invokestatic 33, 3) := by decide +kernel
theorem dX6_setBreakpoint_4 : decode cX6_setBreakpoint 4 = .ok (.ifCond .ne 6, 3) := by decide +kernel
theorem dX6_setBreakpoint_7 : decode cX6_setBreakpoint 7 = .ok (.ldc 37, 2) := by decide +kernel
theorem dX6_setBreakpoint_9 : decode cX6_setBreakpoint 9 = .ok (.ireturn, 1) := by decide +kernel
theorem dX6_setBreakpoint_10 : decode cX6_setBreakpoint 10 = .ok (.aload_n 0, 1) := by decide +kernel
theorem dX6_setBreakpoint_11 : decode cX6_setBreakpoint 11 = .ok (.getfield 22, 3) := by decide +kernel
theorem dX6_setBreakpoint_14 : decode cX6_setBreakpoint 14 = .ok (.aload_n 0, 1) := by decide +kernel
theorem dX6_setBreakpoint_15 : decode cX6_setBreakpoint 15 = .ok (.getfield 10, 3) := by decide +kernel
theorem dX6_setBreakpoint_18 : decode cX6_setBreakpoint 18 = .ok (.invokevirtual 49, 3) := by decide +kernel
theorem dX6_setBreakpoint_21 : decode cX6_setBreakpoint 21 = .ok (.aload_n 0, 1) := by decide +kernel
theorem dX6_setBreakpoint_22 : decode cX6_setBreakpoint 22 = .ok (.getfield 10, 3) := by decide +kernel
theorem dX6_setBreakpoint_25 : decode cX6_setBreakpoint 25 = .ok (.getfield 122, 3) := by decide +kernel
theorem dX6_setBreakpoint_28 : decode cX6_setBreakpoint 28 = .ok (.iload_n 1, 1) := by decide +kernel
theorem dX6_setBreakpoint_29 : decode cX6_setBreakpoint 29 = .ok (.iload_n 2, 1) := by decide +kernel
theorem dX6_setBreakpoint_30 : decode cX6_setBreakpoint 30 = .ok (.ifCond .eq 7, 3) := by decide +kernel
theorem dX6_setBreakpoint_33 : decode cX6_setBreakpoint 33 = .ok (.iconst 1, 1) := by decide +kernel
theorem dX6_setBreakpoint_34 : decode cX6_setBreakpoint 34 = .ok (.goto 4, 3) := by decide +kernel
theorem dX6_setBreakpoint_37 : decode cX6_setBreakpoint 37 = .ok (.iconst 0, 1) := by decide +kernel
theorem dX6_setBreakpoint_38 : decode cX6_setBreakpoint 38 = .ok (.iastore, 1) := by decide +kernel
theorem dX6_setBreakpoint_39 : decode cX6_setBreakpoint 39 = .ok (.aload_n 0, 1) := by decide +kernel
theorem dX6_setBreakpoint_40 : decode cX6_setBreakpoint 40 = .ok (.getfield 10, 3) := by decide +kernel
theorem dX6_setBreakpoint_43 : decode cX6_setBreakpoint 43 = .ok (.invokevirtual 125, 3) := by decide +kernel
theorem dX6_setBreakpoint_46 : decode cX6_setBreakpoint 46 = .ok (.ireturn, 1) := by decide +kernel
set_option maxRecDepth 20000 in
theorem ggX6_run_X6_isWithin : GoodIn wsX6_run wsX6_isWithin := goodIn_r _ [7] (by decide +kernel) (by decide +kernel)
set_option maxRecDepth 20000 in
theorem gX6_run_X6_isWithin : GoodIn wsX6_run (va_wsS RX6 115 yX6_isWithin wsX6_isWithin) := goodIn_app (goodIn_of _ (by decide +kernel)) ggX6_run_X6_isWithin
set_option maxRecDepth 20000 in
theorem ggX6_run_X1_remember : GoodIn wsX6_run wsX1_remember := goodIn_r _ [12, 13, 14, 15, 16, 17, 18, 19, 20, 21, 22, 23, 24, 25, 26, 27, 28, 29, 30, 31, 32, 33, 34, 35, 36, 37, 38, 39, 40, 41, 42, 43, 44, 45, 46, 47, 48, 49, 50, 51, 52, 53, 54, 55, 56, 57, 58, 59, 60, 61, 62, 63, 64, 65, 66, 67, 68, 69, 70, 71, 173, 174, 175, 176, 177, 178, 179, 180, 181, 182, 183, 184, 185, 186, 187, 188, 189, 190, 191, 192, 193, 194, 195, 196, 197, 198, 199, 200] (by decide +kernel) (by decide +kernel)
set_option maxRecDepth 20000 in
theorem gX6_run_X1_remember : GoodIn wsX6_run (wsV RX6 49 RX1 yX1_remember wsX1_remember) := goodIn_app (goodIn_of _ (by decide +kernel)) ggX6_run_X1_remember
set_option maxRecDepth 20000 in
theorem ggX6_run_X3_runToBreakpoint : GoodIn wsX6_run wsX3_runToBreakpoint := goodIn_r _ [75, 76, 77, 78, 23, 79, 25, 80, 81, 82, 83, 27, 84, 85, 86, 87, 34, 88, 89, 90, 91, 92, 36, 93, 94, 95, 96, 97, 98, 99, 41, 100, 45, 49, 101, 102, 103, 104, 33, 105, 106, 107, 108, 109, 110, 111, 112, 113, 114, 115, 6, 116, 4, 5, 7, 117, 118, 119, 120, 121, 122, 37, 123, 124, 125, 126, 32, 127, 128, 129, 130, 131, 132, 133, 134, 135, 136, 137, 138, 53, 54, 139, 140, 18, 141, 142, 143, 144, 145, 35, 146, 147, 148, 66, 149, 70, 68, 71, 150, 17, 19, 151, 152, 153, 154, 26, 155, 156, 157, 158, 159, 160, 161, 162, 163, 164, 165, 47, 48, 166, 167, 168, 176, 177, 178, 179, 180, 181, 182, 183, 184, 185, 186, 187, 188, 189, 190, 191, 192, 193, 194, 195, 198, 199, 200, 196, 197] (by decide +kernel) (by decide +kernel)
set_option maxRecDepth 20000 in
theorem gX6_run_X3_runToBreakpoint : GoodIn wsX6_run (wsV RX6 128 RX3 yX3_runToBreakpoint wsX3_runToBreakpoint) := goodIn_app (goodIn_of _ (by decide +kernel)) ggX6_run_X3_runToBreakpoint
theorem dX6_run_0 : decode cX6_run 0 = .ok (.iload_n 1, 1) := by decide +kernel
theorem dX6_run_1 : decode cX6_run 1 = .ok (.iconst 1, 1) := by decide +kernel
theorem dX6_run_2 : decode cX6_run 2 = .ok (.sipush 200, 3) := by decide +kernel
theorem dX6_run_5 : decode cX6_run 5 = .ok (.invokestatic 115, 3) := by decide +kernel
theorem dX6_run_8 : decode cX6_run 8 = .ok (.ifCond .ne 6, 3) := by decide +kernel
theorem dX6_run_11 : decode cX6_run 11 = .ok (.ldc 91, 2) := by decide +kernel
theorem dX6_run_13 : decode cX6_run 13 = .ok (.ireturn, 1) := by decide +kernel
theorem dX6_run_14 : decode cX6_run 14 = .ok (.aload_n 0, 1) := by decide +kernel
theorem dX6_run_15 : decode cX6_run 15 = .ok (.getfield 22, 3) := by decide +kernel
theorem dX6_run_18 : decode cX6_run 18 = .ok (.aload_n 0, 1) := by decide +kernel
theorem dX6_run_19 : decode cX6_run 19 = .ok (.getfield 10, 3) := by decide +kernel
theorem dX6_run_22 : decode cX6_run 22 = .ok (.invokevirtual 49, 3) := by decide +kernel
theorem dX6_run_25 : decode cX6_run 25 = .ok (.aload_n 0, 1) := by decide +kernel
theorem dX6_run_26 : decode cX6_run 26 = .ok (.getfield 10, 3) := by decide +kernel
theorem dX6_run_29 : decode cX6_run 29 = .ok (.iload_n 1, 1) := by decide +kernel
theorem dX6_run_30 : decode cX6_run 30 = .ok (.invokevirtual 128, 3) := by decide +kernel
theorem dX6_run_33 : decode cX6_run 33 = .ok (.ireturn, 1) := by decide +kernel
set_option maxRecDepth 20000 in
theorem ggX6_append_X6_isWithin : GoodIn wsX6_append wsX6_isWithin := goodIn_r _ [7] (by decide +kernel) (by decide +kernel)
set_option maxRecDepth 20000 in
theorem gX6_append_X6_isWithin : GoodIn wsX6_append (va_wsS RX6 115 yX6_isWithin wsX6_isWithin) := goodIn_app (goodIn_of _ (by decide +kernel)) ggX6_append_X6_isWithin
set_option maxRecDepth 20000 in
theorem ggX6_append_X4_add : GoodIn wsX6_append wsX4_add := goodIn_r _ [12, 13, 14, 19, 20, 21, 22, 23, 24] (by decide +kernel) (by decide +kernel)
set_option maxRecDepth 20000 in
theorem gX6_append_X4_add : GoodIn wsX6_append (wsV RX6 135 RX4 yX4_add wsX4_add) := goodIn_app (goodIn_of _ (by decide +kernel)) ggX6_append_X4_add
theorem dX6_append_0 : decode cX6_append 0 = .ok (.iload_n 1, 1) := by decide +kernel
theorem dX6_append_1 : decode cX6_append 1 = .ok (.bipush 32, 2) := by decide +kernel
theorem dX6_append_3 : decode cX6_append 3 = .ok (.bipush 126, 2) := by decide +kernel
theorem dX6_append_5 : decode cX6_append 5 = .ok (.invokestatic 115, 3) := by decide +kernel
theorem dX6_append_8 : decode cX6_append 8 = .ok (.ifCond .ne 6, 3) := by decide +kernel
theorem dX6_append_11 : decode cX6_append 11 = .ok (.ldc 91, 2) := by decide +kernel
theorem dX6_append_13 : decode cX6_append 13 = .ok (.ireturn, 1) := by decide +kernel
theorem dX6_append_14 : decode cX6_append 14 = .ok (.aload_n 0, 1) := by decide +kernel
theorem dX6_append_15 : decode cX6_append 15 = .ok (.getfield 29, 3) := by decide +kernel
theorem dX6_append_18 : decode cX6_append 18 = .ok (.getfield 132, 3) := by decide +kernel
theorem dX6_append_21 : decode cX6_append 21 = .ok (.bipush 100, 2) := by decide +kernel
theorem dX6_append_23 : decode cX6_append 23 = .ok (.if_icmp .lt 6, 3) := by decide +kernel
theorem dX6_append_26 : decode cX6_append 26 = .ok (.ldc 48, 2) := by decide +kernel
theorem dX6_append_28 : decode cX6_append 28 = .ok (.ireturn, 1) := by decide +kernel
theorem dX6_append_29 : decode cX6_append 29 = .ok (.aload_n 0, 1) := by decide +kernel
theorem dX6_append_30 : decode cX6_append 30 = .ok (.getfield 29, 3) := by decide +kernel
theorem dX6_append_33 : decode cX6_append 33 = .ok (.iload_n 1, 1) := by decide +kernel
theorem dX6_append_34 : decode cX6_append 34 = .ok (.i2c, 1) := by decide +kernel
theorem dX6_append_35 : decode cX6_append 35 = .ok (.invokevirtual 135, 3) := by decide +kernel
theorem dX6_append_38 : decode cX6_append 38 = .ok (.aload_n 0, 1) := by decide +kernel
theorem dX6_append_39 : decode cX6_append 39 = .ok (.getfield 29, 3) := by decide +kernel
theorem dX6_append_42 : decode cX6_append 42 = .ok (.getfield 132, 3) := by decide +kernel
theorem dX6_append_45 : decode cX6_append 45 = .ok (.ireturn, 1) := by decide +kernel
theorem dX6_clearText_0 : decode cX6_clearText 0 = .ok (.aload_n 0, 1) := by decide +kernel
theorem dX6_clearText_1 : decode cX6_clearText 1 = .ok (.getfield 29, 3) := by decide +kernel
theorem dX6_clearText_4 : decode cX6_clearText 4 = .ok (.getfield 132, 3) := by decide +kernel
theorem dX6_clearText_7 : decode cX6_clearText 7 = .ok (.istore_n 1, 1) := by decide +kernel
theorem dX6_clearText_8 : decode cX6_clearText 8 = .ok (.aload_n 0, 1) := by decide +kernel
theorem dX6_clearText_9 : decode cX6_clearText 9 = .ok (.getfield 29, 3) := by decide +kernel
theorem dX6_clearText_12 : decode cX6_clearText 12 = .ok (.iconst 0, 1) := by decide +kernel
theorem dX6_clearText_13 : decode cX6_clearText 13 = .ok (.putfield 132, 3) := by decide +kernel
theorem dX6_clearText_16 : decode cX6_clearText 16 = .ok (.iload_n 1, 1) := by decide +kernel
theorem dX6_clearText_17 : decode cX6_clearText 17 = .ok (.ireturn, 1) := by decide +kernel
set_option maxRecDepth 20000 in
theorem ggX6_fault_X4_findFault : GoodIn wsX6_fault wsX4_findFault := goodIn_r _ [6, 7, 8, 9, 10, 11, 12, 13, 5, 14, 15, 16, 17, 18, 19, 20, 21, 22, 23, 24, 25, 26, 27, 28, 29, 30, 31, 32, 33, 34, 35, 36, 37, 38, 39, 40, 41, 42, 43, 44, 45, 46, 47, 48, 49, 50, 51, 52, 53, 54, 55, 56, 57, 58, 59, 60, 61, 62, 63, 64, 65, 66, 67, 68, 69, 70, 71, 72, 73, 74, 75, 76, 77, 78, 79, 80, 81, 82, 83, 84, 85, 86, 87, 88, 89, 90, 91, 92, 93, 94, 95, 96, 97, 98, 99, 100, 101, 102, 103, 104, 105, 106, 107, 108, 109, 110, 111, 112, 113, 114, 115, 116, 117, 118, 119, 120, 121, 122, 123, 124, 125, 126, 127, 128, 129, 130, 131, 132, 133, 134, 135, 136, 137, 138, 139, 140, 141, 142, 143, 144, 145, 146, 151, 152, 153, 154, 155, 156, 157, 158] (by decide +kernel) (by decide +kernel)
set_option maxRecDepth 20000 in
theorem gX6_fault_X4_findFault : GoodIn wsX6_fault (wsV RX6 38 RX4 yX4_findFault wsX4_findFault) := goodIn_app (goodIn_of _ (by decide +kernel)) ggX6_fault_X4_findFault
theorem dX6_fault_0 : decode cX6_fault 0 = .ok (.aload_n 0, 1) := by decide +kernel
theorem dX6_fault_1 : decode cX6_fault 1 = .ok (.getfield 29, 3) := by decide +kernel
theorem dX6_fault_4 : decode cX6_fault 4 = .ok (.invokevirtual 38, 3) := by decide +kernel
theorem dX6_fault_7 : decode cX6_fault 7 = .ok (.ireturn, 1) := by decide +kernel
set_option maxRecDepth 20000 in
theorem ggX6_undo_X1_restore : GoodIn wsX6_undo wsX1_restore := goodIn_r _ [7, 8, 9, 10, 11, 12, 13, 14, 15, 16, 17, 18, 19, 20, 21, 22, 23, 24, 25, 26, 27, 28, 29, 30, 31, 32, 33, 34, 35, 36, 37, 38, 39, 40, 41, 42, 43, 44, 45, 46, 47, 48, 49, 50, 51, 52, 53, 54, 55, 56, 57, 58, 59, 60, 61, 62, 63, 68, 69, 70, 71, 72, 73, 74, 75, 76, 77, 78, 79, 80, 81, 82, 83, 84, 85, 86, 87, 88, 89, 90, 91, 92, 93, 94, 95] (by decide +kernel) (by decide +kernel)
set_option maxRecDepth 20000 in
theorem gX6_undo_X1_restore : GoodIn wsX6_undo (wsV RX6 139 RX1 yX1_restore wsX1_restore) := goodIn_app (goodIn_of _ (by decide +kernel)) ggX6_undo_X1_restore
theorem dX6_undo_0 : decode cX6_undo 0 = .ok (.aload_n 0, 1) := by decide +kernel
theorem dX6_undo_1 : decode cX6_undo 1 = .ok (.getfield 22, 3) := by decide +kernel
theorem dX6_undo_4 : decode cX6_undo 4 = .ok (.aload_n 0, 1) := by decide +kernel
theorem dX6_undo_5 : decode cX6_undo 5 = .ok (.getfield 10, 3) := by decide +kernel
theorem dX6_undo_8 : decode cX6_undo 8 = .ok (.invokevirtual 139, 3) := by decide +kernel
theorem dX6_undo_11 : decode cX6_undo 11 = .ok (.ireturn, 1) := by decide +kernel
set_option maxRecDepth 20000 in
theorem ggX6_state_X6_isThread : GoodIn wsX6_state wsX6_isThread := goodIn_r _ [6, 7, 8, 5, 9] (by decide +kernel) (by decide +kernel)
set_option maxRecDepth 20000 in
theorem gX6_state_X6_isThread : GoodIn wsX6_state (va_wsS RX6 66 yX6_isThread wsX6_isThread) := goodIn_app (goodIn_of _ (by decide +kernel)) ggX6_state_X6_isThread
theorem dX6_state_0 : decode cX6_state 0 = .ok (.iload_n 1, 1) := by decide +kernel
theorem dX6_state_1 : decode cX6_state 1 = .ok (.invokestatic 66, 3) := by decide +kernel
theorem dX6_state_4 : decode cX6_state 4 = .ok (.ifCond .eq 18, 3) := by decide +kernel
theorem dX6_state_7 : decode cX6_state 7 = .ok (.aload_n 0, 1) := by decide +kernel
theorem dX6_state_8 : decode cX6_state 8 = .ok (.getfield 10, 3) := by decide +kernel
theorem dX6_state_11 : decode cX6_state 11 = .ok (.getfield 69, 3) := by decide +kernel
theorem dX6_state_14 : decode cX6_state 14 = .ok (.iload_n 1, 1) := by decide +kernel
theorem dX6_state_15 : decode cX6_state 15 = .ok (.aaload, 1) := by decide +kernel
theorem dX6_state_16 : decode cX6_state 16 = .ok (.getfield 73, 3) := by decide +kernel
theorem dX6_state_19 : decode cX6_state 19 = .ok (.goto 5, 3) := by decide +kernel
theorem dX6_state_22 : decode cX6_state 22 = .ok (.ldc 37, 2) := by decide +kernel
theorem dX6_state_24 : decode cX6_state 24 = .ok (.ireturn, 1) := by decide +kernel
set_option maxRecDepth 20000 in
theorem ggX6_programCounter_X6_isThread : GoodIn wsX6_programCounter wsX6_isThread := goodIn_r _ [6, 7, 8, 5, 9] (by decide +kernel) (by decide +kernel)
set_option maxRecDepth 20000 in
theorem gX6_programCounter_X6_isThread : GoodIn wsX6_programCounter (va_wsS RX6 66 yX6_isThread wsX6_isThread) := goodIn_app (goodIn_of _ (by decide +kernel)) ggX6_programCounter_X6_isThread
theorem dX6_programCounter_0 : decode cX6_programCounter 0 = .ok (.iload_n 1, 1) := by decide +kernel
theorem dX6_programCounter_1 : decode cX6_programCounter 1 = .ok (.invokestatic 66, 3) := by decide +kernel
theorem dX6_programCounter_4 : decode cX6_programCounter 4 = .ok (.ifCond .eq 18, 3) := by decide +kernel
theorem dX6_programCounter_7 : decode cX6_programCounter 7 = .ok (.aload_n 0, 1) := by decide +kernel
theorem dX6_programCounter_8 : decode cX6_programCounter 8 = .ok (.getfield 10, 3) := by decide +kernel
theorem dX6_programCounter_11 : decode cX6_programCounter 11 = .ok (.getfield 69, 3) := by decide +kernel
theorem dX6_programCounter_14 : decode cX6_programCounter 14 = .ok (.iload_n 1, 1) := by decide +kernel
theorem dX6_programCounter_15 : decode cX6_programCounter 15 = .ok (.aaload, 1) := by decide +kernel
theorem dX6_programCounter_16 : decode cX6_programCounter 16 = .ok (.getfield 143, 3) := by decide +kernel
theorem dX6_programCounter_19 : decode cX6_programCounter 19 = .ok (.goto 5, 3) := by decide +kernel
theorem dX6_programCounter_22 : decode cX6_programCounter 22 = .ok (.ldc 37, 2) := by decide +kernel
theorem dX6_programCounter_24 : decode cX6_programCounter 24 = .ok (.ireturn, 1) := by decide +kernel
set_option maxRecDepth 20000 in
theorem ggX6_register_X6_isThread : GoodIn wsX6_register wsX6_isThread := goodIn_r _ [6, 7, 8, 5, 9] (by decide +kernel) (by decide +kernel)
set_option maxRecDepth 20000 in
theorem gX6_register_X6_isThread : GoodIn wsX6_register (va_wsS RX6 66 yX6_isThread wsX6_isThread) := goodIn_app (goodIn_of _ (by decide +kernel)) ggX6_register_X6_isThread
set_option maxRecDepth 20000 in
theorem ggX6_register_X6_isRegister : GoodIn wsX6_register wsX6_isRegister := goodIn_r _ [12, 7, 8, 5, 9] (by decide +kernel) (by decide +kernel)
set_option maxRecDepth 20000 in
theorem gX6_register_X6_isRegister : GoodIn wsX6_register (va_wsS RX6 85 yX6_isRegister wsX6_isRegister) := goodIn_app (goodIn_of _ (by decide +kernel)) ggX6_register_X6_isRegister
theorem dX6_register_0 : decode cX6_register 0 = .ok (.iload_n 1, 1) := by decide +kernel
theorem dX6_register_1 : decode cX6_register 1 = .ok (.invokestatic 66, 3) := by decide +kernel
theorem dX6_register_4 : decode cX6_register 4 = .ok (.ifCond .eq 10, 3) := by decide +kernel
theorem dX6_register_7 : decode cX6_register 7 = .ok (.iload_n 2, 1) := by decide +kernel
theorem dX6_register_8 : decode cX6_register 8 = .ok (.invokestatic 85, 3) := by decide +kernel
theorem dX6_register_11 : decode cX6_register 11 = .ok (.ifCond .ne 6, 3) := by decide +kernel
theorem dX6_register_14 : decode cX6_register 14 = .ok (.ldc 37, 2) := by decide +kernel
theorem dX6_register_16 : decode cX6_register 16 = .ok (.ireturn, 1) := by decide +kernel
theorem dX6_register_17 : decode cX6_register 17 = .ok (.aload_n 0, 1) := by decide +kernel
theorem dX6_register_18 : decode cX6_register 18 = .ok (.getfield 10, 3) := by decide +kernel
theorem dX6_register_21 : decode cX6_register 21 = .ok (.getfield 69, 3) := by decide +kernel
theorem dX6_register_24 : decode cX6_register 24 = .ok (.iload_n 1, 1) := by decide +kernel
theorem dX6_register_25 : decode cX6_register 25 = .ok (.aaload, 1) := by decide +kernel
theorem dX6_register_26 : decode cX6_register 26 = .ok (.getfield 92, 3) := by decide +kernel
theorem dX6_register_29 : decode cX6_register 29 = .ok (.iload_n 2, 1) := by decide +kernel
theorem dX6_register_30 : decode cX6_register 30 = .ok (.iaload, 1) := by decide +kernel
theorem dX6_register_31 : decode cX6_register 31 = .ok (.ireturn, 1) := by decide +kernel
set_option maxRecDepth 20000 in
theorem ggX6_word_X6_isWord : GoodIn wsX6_word wsX6_isWord := goodIn_r _ [6, 7, 8, 5, 9] (by decide +kernel) (by decide +kernel)
set_option maxRecDepth 20000 in
theorem gX6_word_X6_isWord : GoodIn wsX6_word (va_wsS RX6 100 yX6_isWord wsX6_isWord) := goodIn_app (goodIn_of _ (by decide +kernel)) ggX6_word_X6_isWord
theorem dX6_word_0 : decode cX6_word 0 = .ok (.iload_n 1, 1) := by decide +kernel
theorem dX6_word_1 : decode cX6_word 1 = .ok (.invokestatic 100, 3) := by decide +kernel
theorem dX6_word_4 : decode cX6_word 4 = .ok (.ifCond .eq 15, 3) := by decide +kernel
theorem dX6_word_7 : decode cX6_word 7 = .ok (.aload_n 0, 1) := by decide +kernel
theorem dX6_word_8 : decode cX6_word 8 = .ok (.getfield 10, 3) := by decide +kernel
theorem dX6_word_11 : decode cX6_word 11 = .ok (.getfield 103, 3) := by decide +kernel
theorem dX6_word_14 : decode cX6_word 14 = .ok (.iload_n 1, 1) := by decide +kernel
theorem dX6_word_15 : decode cX6_word 15 = .ok (.iaload, 1) := by decide +kernel
theorem dX6_word_16 : decode cX6_word 16 = .ok (.goto 5, 3) := by decide +kernel
theorem dX6_word_19 : decode cX6_word 19 = .ok (.ldc 37, 2) := by decide +kernel
theorem dX6_word_21 : decode cX6_word 21 = .ok (.ireturn, 1) := by decide +kernel
set_option maxRecDepth 20000 in
theorem ggX6_operation_X6_isPlace : GoodIn wsX6_operation wsX6_isPlace := goodIn_r _ [6, 7, 8, 5, 9] (by decide +kernel) (by decide +kernel)
set_option maxRecDepth 20000 in
theorem gX6_operation_X6_isPlace : GoodIn wsX6_operation (va_wsS RX6 33 yX6_isPlace wsX6_isPlace) := goodIn_app (goodIn_of _ (by decide +kernel)) ggX6_operation_X6_isPlace
theorem dX6_operation_0 : decode cX6_operation 0 = .ok (.iload_n 1, 1) := by decide +kernel
theorem dX6_operation_1 : decode cX6_operation 1 = .ok (.invokestatic 33, 3) := by decide +kernel
theorem dX6_operation_4 : decode cX6_operation 4 = .ok (.ifCond .eq 18, 3) := by decide +kernel
theorem dX6_operation_7 : decode cX6_operation 7 = .ok (.aload_n 0, 1) := by decide +kernel
theorem dX6_operation_8 : decode cX6_operation 8 = .ok (.getfield 10, 3) := by decide +kernel
theorem dX6_operation_11 : decode cX6_operation 11 = .ok (.getfield 53, 3) := by decide +kernel
theorem dX6_operation_14 : decode cX6_operation 14 = .ok (.getfield 146, 3) := by decide +kernel
theorem dX6_operation_17 : decode cX6_operation 17 = .ok (.iload_n 1, 1) := by decide +kernel
theorem dX6_operation_18 : decode cX6_operation 18 = .ok (.iaload, 1) := by decide +kernel
theorem dX6_operation_19 : decode cX6_operation 19 = .ok (.goto 5, 3) := by decide +kernel
theorem dX6_operation_22 : decode cX6_operation 22 = .ok (.ldc 37, 2) := by decide +kernel
theorem dX6_operation_24 : decode cX6_operation 24 = .ok (.ireturn, 1) := by decide +kernel
set_option maxRecDepth 20000 in
theorem ggX6_operand_X6_isPlace : GoodIn wsX6_operand wsX6_isPlace := goodIn_r _ [7, 8, 9, 6, 10] (by decide +kernel) (by decide +kernel)
set_option maxRecDepth 20000 in
theorem gX6_operand_X6_isPlace : GoodIn wsX6_operand (va_wsS RX6 33 yX6_isPlace wsX6_isPlace) := goodIn_app (goodIn_of _ (by decide +kernel)) ggX6_operand_X6_isPlace
set_option maxRecDepth 20000 in
theorem ggX6_operand_X6_isWithin : GoodIn wsX6_operand wsX6_isWithin := goodIn_r _ [10] (by decide +kernel) (by decide +kernel)
set_option maxRecDepth 20000 in
theorem gX6_operand_X6_isWithin : GoodIn wsX6_operand (va_wsS RX6 115 yX6_isWithin wsX6_isWithin) := goodIn_app (goodIn_of _ (by decide +kernel)) ggX6_operand_X6_isWithin
theorem dX6_operand_0 : decode cX6_operand 0 = .ok (.iload_n 1, 1) := by decide +kernel
theorem dX6_operand_1 : decode cX6_operand 1 = .ok (.invokestatic 33, 3) := by decide +kernel
theorem dX6_operand_4 : decode cX6_operand 4 = .ok (.ifCond .ne 6, 3) := by decide +kernel
theorem dX6_operand_7 : decode cX6_operand 7 = .ok (.ldc 37, 2) := by decide +kernel
theorem dX6_operand_9 : decode cX6_operand 9 = .ok (.ireturn, 1) := by decide +kernel
theorem dX6_operand_10 : decode cX6_operand 10 = .ok (.iload_n 2, 1) := by decide +kernel
theorem dX6_operand_11 : decode cX6_operand 11 = .ok (.iconst 0, 1) := by decide +kernel
theorem dX6_operand_12 : decode cX6_operand 12 = .ok (.iconst 1, 1) := by decide +kernel
theorem dX6_operand_13 : decode cX6_operand 13 = .ok (.invokestatic 115, 3) := by decide +kernel
theorem dX6_operand_16 : decode cX6_operand 16 = .ok (.ifCond .ne 6, 3) := by decide +kernel
theorem dX6_operand_19 : decode cX6_operand 19 = .ok (.ldc 91, 2) := by decide +kernel
theorem dX6_operand_21 : decode cX6_operand 21 = .ok (.ireturn, 1) := by decide +kernel
theorem dX6_operand_22 : decode cX6_operand 22 = .ok (.aload_n 0, 1) := by decide +kernel
theorem dX6_operand_23 : decode cX6_operand 23 = .ok (.getfield 10, 3) := by decide +kernel
theorem dX6_operand_26 : decode cX6_operand 26 = .ok (.getfield 53, 3) := by decide +kernel
theorem dX6_operand_29 : decode cX6_operand 29 = .ok (.getfield 149, 3) := by decide +kernel
theorem dX6_operand_32 : decode cX6_operand 32 = .ok (.iload_n 1, 1) := by decide +kernel
theorem dX6_operand_33 : decode cX6_operand 33 = .ok (.iconst 2, 1) := by decide +kernel
theorem dX6_operand_34 : decode cX6_operand 34 = .ok (.imul, 1) := by decide +kernel
theorem dX6_operand_35 : decode cX6_operand 35 = .ok (.iload_n 2, 1) := by decide +kernel
theorem dX6_operand_36 : decode cX6_operand 36 = .ok (.iadd, 1) := by decide +kernel
theorem dX6_operand_37 : decode cX6_operand 37 = .ok (.iaload, 1) := by decide +kernel
theorem dX6_operand_38 : decode cX6_operand 38 = .ok (.ireturn, 1) := by decide +kernel
set_option maxRecDepth 20000 in
theorem ggX6_slot_X6_isSlot : GoodIn wsX6_slot wsX6_isSlot := goodIn_r _ [6, 7, 8, 5, 9] (by decide +kernel) (by decide +kernel)
set_option maxRecDepth 20000 in
theorem gX6_slot_X6_isSlot : GoodIn wsX6_slot (va_wsS RX6 106 yX6_isSlot wsX6_isSlot) := goodIn_app (goodIn_of _ (by decide +kernel)) ggX6_slot_X6_isSlot
theorem dX6_slot_0 : decode cX6_slot 0 = .ok (.iload_n 1, 1) := by decide +kernel
theorem dX6_slot_1 : decode cX6_slot 1 = .ok (.invokestatic 106, 3) := by decide +kernel
theorem dX6_slot_4 : decode cX6_slot 4 = .ok (.ifCond .eq 15, 3) := by decide +kernel
theorem dX6_slot_7 : decode cX6_slot 7 = .ok (.aload_n 0, 1) := by decide +kernel
theorem dX6_slot_8 : decode cX6_slot 8 = .ok (.getfield 10, 3) := by decide +kernel
theorem dX6_slot_11 : decode cX6_slot 11 = .ok (.getfield 109, 3) := by decide +kernel
theorem dX6_slot_14 : decode cX6_slot 14 = .ok (.iload_n 1, 1) := by decide +kernel
theorem dX6_slot_15 : decode cX6_slot 15 = .ok (.iaload, 1) := by decide +kernel
theorem dX6_slot_16 : decode cX6_slot 16 = .ok (.goto 5, 3) := by decide +kernel
theorem dX6_slot_19 : decode cX6_slot 19 = .ok (.ldc 37, 2) := by decide +kernel
theorem dX6_slot_21 : decode cX6_slot 21 = .ok (.ireturn, 1) := by decide +kernel
set_option maxRecDepth 20000 in
theorem ggX6_setting_X6_isSetting : GoodIn wsX6_setting wsX6_isSetting := goodIn_r _ [6, 7, 8, 5, 9] (by decide +kernel) (by decide +kernel)
set_option maxRecDepth 20000 in
theorem gX6_setting_X6_isSetting : GoodIn wsX6_setting (va_wsS RX6 112 yX6_isSetting wsX6_isSetting) := goodIn_app (goodIn_of _ (by decide +kernel)) ggX6_setting_X6_isSetting
theorem dX6_setting_0 : decode cX6_setting 0 = .ok (.iload_n 1, 1) := by decide +kernel
theorem dX6_setting_1 : decode cX6_setting 1 = .ok (.invokestatic 112, 3) := by decide +kernel
theorem dX6_setting_4 : decode cX6_setting 4 = .ok (.ifCond .eq 15, 3) := by decide +kernel
theorem dX6_setting_7 : decode cX6_setting 7 = .ok (.aload_n 0, 1) := by decide +kernel
theorem dX6_setting_8 : decode cX6_setting 8 = .ok (.getfield 10, 3) := by decide +kernel
theorem dX6_setting_11 : decode cX6_setting 11 = .ok (.getfield 119, 3) := by decide +kernel
theorem dX6_setting_14 : decode cX6_setting 14 = .ok (.iload_n 1, 1) := by decide +kernel
theorem dX6_setting_15 : decode cX6_setting 15 = .ok (.iaload, 1) := by decide +kernel
theorem dX6_setting_16 : decode cX6_setting 16 = .ok (.goto 5, 3) := by decide +kernel
theorem dX6_setting_19 : decode cX6_setting 19 = .ok (.ldc 37, 2) := by decide +kernel
theorem dX6_setting_21 : decode cX6_setting 21 = .ok (.ireturn, 1) := by decide +kernel
set_option maxRecDepth 20000 in
theorem ggX6_breakpoint_X6_isPlace : GoodIn wsX6_breakpoint wsX6_isPlace := goodIn_r _ [6, 7, 8, 5, 9] (by decide +kernel) (by decide +kernel)
set_option maxRecDepth 20000 in
theorem gX6_breakpoint_X6_isPlace : GoodIn wsX6_breakpoint (va_wsS RX6 33 yX6_isPlace wsX6_isPlace) := goodIn_app (goodIn_of _ (by decide +kernel)) ggX6_breakpoint_X6_isPlace
theorem dX6_breakpoint_0 : decode cX6_breakpoint 0 = .ok (.iload_n 1, 1) := by decide +kernel
theorem dX6_breakpoint_1 : decode cX6_breakpoint 1 = .ok (.invokestatic 33, 3) := by decide +kernel
theorem dX6_breakpoint_4 : decode cX6_breakpoint 4 = .ok (.ifCond .eq 15, 3) := by decide +kernel
theorem dX6_breakpoint_7 : decode cX6_breakpoint 7 = .ok (.aload_n 0, 1) := by decide +kernel
theorem dX6_breakpoint_8 : decode cX6_breakpoint 8 = .ok (.getfield 10, 3) := by decide +kernel
theorem dX6_breakpoint_11 : decode cX6_breakpoint 11 = .ok (.getfield 122, 3) := by decide +kernel
theorem dX6_breakpoint_14 : decode cX6_breakpoint 14 = .ok (.iload_n 1, 1) := by decide +kernel
theorem dX6_breakpoint_15 : decode cX6_breakpoint 15 = .ok (.iaload, 1) := by decide +kernel
theorem dX6_breakpoint_16 : decode cX6_breakpoint 16 = .ok (.goto 5, 3) := by decide +kernel
theorem dX6_breakpoint_19 : decode cX6_breakpoint 19 = .ok (.ldc 37, 2) := by decide +kernel
theorem dX6_breakpoint_21 : decode cX6_breakpoint 21 = .ok (.ireturn, 1) := by decide +kernel
theorem dX6_cycle_0 : decode cX6_cycle 0 = .ok (.aload_n 0, 1) := by decide +kernel
theorem dX6_cycle_1 : decode cX6_cycle 1 = .ok (.getfield 10, 3) := by decide +kernel
theorem dX6_cycle_4 : decode cX6_cycle 4 = .ok (.getfield 152, 3) := by decide +kernel
theorem dX6_cycle_7 : decode cX6_cycle 7 = .ok (.ireturn, 1) := by decide +kernel
theorem dX6_idle_0 : decode cX6_idle 0 = .ok (.aload_n 0, 1) := by decide +kernel
theorem dX6_idle_1 : decode cX6_idle 1 = .ok (.getfield 10, 3) := by decide +kernel
theorem dX6_idle_4 : decode cX6_idle 4 = .ok (.getfield 155, 3) := by decide +kernel
theorem dX6_idle_7 : decode cX6_idle 7 = .ok (.ireturn, 1) := by decide +kernel
set_option maxRecDepth 20000 in
theorem ggX6_executed_X6_isThread : GoodIn wsX6_executed wsX6_isThread := goodIn_r _ [6, 7, 8, 5, 9] (by decide +kernel) (by decide +kernel)
set_option maxRecDepth 20000 in
theorem gX6_executed_X6_isThread : GoodIn wsX6_executed (va_wsS RX6 66 yX6_isThread wsX6_isThread) := goodIn_app (goodIn_of _ (by decide +kernel)) ggX6_executed_X6_isThread
theorem dX6_executed_0 : decode cX6_executed 0 = .ok (.iload_n 1, 1) := by decide +kernel
theorem dX6_executed_1 : decode cX6_executed 1 = .ok (.invokestatic 66, 3) := by decide +kernel
theorem dX6_executed_4 : decode cX6_executed 4 = .ok (.ifCond .eq 18, 3) := by decide +kernel
theorem dX6_executed_7 : decode cX6_executed 7 = .ok (.aload_n 0, 1) := by decide +kernel
theorem dX6_executed_8 : decode cX6_executed 8 = .ok (.getfield 10, 3) := by decide +kernel
theorem dX6_executed_11 : decode cX6_executed 11 = .ok (.getfield 69, 3) := by decide +kernel
theorem dX6_executed_14 : decode cX6_executed 14 = .ok (.iload_n 1, 1) := by decide +kernel
theorem dX6_executed_15 : decode cX6_executed 15 = .ok (.aaload, 1) := by decide +kernel
theorem dX6_executed_16 : decode cX6_executed 16 = .ok (.getfield 158, 3) := by decide +kernel
theorem dX6_executed_19 : decode cX6_executed 19 = .ok (.goto 5, 3) := by decide +kernel
theorem dX6_executed_22 : decode cX6_executed 22 = .ok (.ldc 37, 2) := by decide +kernel
theorem dX6_executed_24 : decode cX6_executed 24 = .ok (.ireturn, 1) := by decide +kernel
set_option maxRecDepth 20000 in
theorem ggX6_lent_X6_isThread : GoodIn wsX6_lent wsX6_isThread := goodIn_r _ [6, 7, 8, 5, 9] (by decide +kernel) (by decide +kernel)
set_option maxRecDepth 20000 in
theorem gX6_lent_X6_isThread : GoodIn wsX6_lent (va_wsS RX6 66 yX6_isThread wsX6_isThread) := goodIn_app (goodIn_of _ (by decide +kernel)) ggX6_lent_X6_isThread
theorem dX6_lent_0 : decode cX6_lent 0 = .ok (.iload_n 1, 1) := by decide +kernel
theorem dX6_lent_1 : decode cX6_lent 1 = .ok (.invokestatic 66, 3) := by decide +kernel
theorem dX6_lent_4 : decode cX6_lent 4 = .ok (.ifCond .eq 18, 3) := by decide +kernel
theorem dX6_lent_7 : decode cX6_lent 7 = .ok (.aload_n 0, 1) := by decide +kernel
theorem dX6_lent_8 : decode cX6_lent 8 = .ok (.getfield 10, 3) := by decide +kernel
theorem dX6_lent_11 : decode cX6_lent 11 = .ok (.getfield 69, 3) := by decide +kernel
theorem dX6_lent_14 : decode cX6_lent 14 = .ok (.iload_n 1, 1) := by decide +kernel
theorem dX6_lent_15 : decode cX6_lent 15 = .ok (.aaload, 1) := by decide +kernel
theorem dX6_lent_16 : decode cX6_lent 16 = .ok (.getfield 161, 3) := by decide +kernel
theorem dX6_lent_19 : decode cX6_lent 19 = .ok (.goto 5, 3) := by decide +kernel
theorem dX6_lent_22 : decode cX6_lent 22 = .ok (.ldc 37, 2) := by decide +kernel
theorem dX6_lent_24 : decode cX6_lent 24 = .ok (.ireturn, 1) := by decide +kernel
set_option maxRecDepth 20000 in
theorem ggX6_starved_X6_isThread : GoodIn wsX6_starved wsX6_isThread := goodIn_r _ [6, 7, 8, 5, 9] (by decide +kernel) (by decide +kernel)
set_option maxRecDepth 20000 in
theorem gX6_starved_X6_isThread : GoodIn wsX6_starved (va_wsS RX6 66 yX6_isThread wsX6_isThread) := goodIn_app (goodIn_of _ (by decide +kernel)) ggX6_starved_X6_isThread
theorem dX6_starved_0 : decode cX6_starved 0 = .ok (.iload_n 1, 1) := by decide +kernel
theorem dX6_starved_1 : decode cX6_starved 1 = .ok (.invokestatic 66, 3) := by decide +kernel
theorem dX6_starved_4 : decode cX6_starved 4 = .ok (.ifCond .eq 18, 3) := by decide +kernel
theorem dX6_starved_7 : decode cX6_starved 7 = .ok (.aload_n 0, 1) := by decide +kernel
theorem dX6_starved_8 : decode cX6_starved 8 = .ok (.getfield 10, 3) := by decide +kernel
theorem dX6_starved_11 : decode cX6_starved 11 = .ok (.getfield 69, 3) := by decide +kernel
theorem dX6_starved_14 : decode cX6_starved 14 = .ok (.iload_n 1, 1) := by decide +kernel
theorem dX6_starved_15 : decode cX6_starved 15 = .ok (.aaload, 1) := by decide +kernel
theorem dX6_starved_16 : decode cX6_starved 16 = .ok (.getfield 164, 3) := by decide +kernel
theorem dX6_starved_19 : decode cX6_starved 19 = .ok (.goto 5, 3) := by decide +kernel
theorem dX6_starved_22 : decode cX6_starved 22 = .ok (.ldc 37, 2) := by decide +kernel
theorem dX6_starved_24 : decode cX6_starved 24 = .ok (.ireturn, 1) := by decide +kernel
set_option maxRecDepth 20000 in
theorem ggX6_trace_X6_isWithin : GoodIn wsX6_trace wsX6_isWithin := goodIn_r _ [6] (by decide +kernel) (by decide +kernel)
set_option maxRecDepth 20000 in
theorem gX6_trace_X6_isWithin : GoodIn wsX6_trace (va_wsS RX6 115 yX6_isWithin wsX6_isWithin) := goodIn_app (goodIn_of _ (by decide +kernel)) ggX6_trace_X6_isWithin
set_option maxRecDepth 20000 in
theorem ggX6_trace_X5_lookUp : GoodIn wsX6_trace wsX5_lookUp := goodIn_r _ [11, 12, 13, 14, 15, 29, 30, 31] (by decide +kernel) (by decide +kernel)
set_option maxRecDepth 20000 in
theorem gX6_trace_X5_lookUp : GoodIn wsX6_trace (wsV RX6 173 RX5 yX5_lookUp wsX5_lookUp) := goodIn_app (goodIn_of _ (by decide +kernel)) ggX6_trace_X5_lookUp
theorem dX6_trace_0 : decode cX6_trace 0 = .ok (.iload_n 1, 1) := by decide +kernel
theorem dX6_trace_1 : decode cX6_trace 1 = .ok (.ifCond .lt 12, 3) := by decide +kernel
theorem dX6_trace_4 : decode cX6_trace 4 = .ok (.iload_n 2, 1) := by decide +kernel
theorem dX6_trace_5 : decode cX6_trace 5 = .ok (.iconst 0, 1) := by decide +kernel
theorem dX6_trace_6 : decode cX6_trace 6 = .ok (.iconst 2, 1) := by decide +kernel
theorem dX6_trace_7 : decode cX6_trace 7 = .ok (.invokestatic 115, 3) := by decide +kernel
theorem dX6_trace_10 : decode cX6_trace 10 = .ok (.ifCond .ne 6, 3) := by decide +kernel
theorem dX6_trace_13 : decode cX6_trace 13 = .ok (.ldc 91, 2) := by decide +kernel
theorem dX6_trace_15 : decode cX6_trace 15 = .ok (.ireturn, 1) := by decide +kernel
theorem dX6_trace_16 : decode cX6_trace 16 = .ok (.aload_n 0, 1) := by decide +kernel
theorem dX6_trace_17 : decode cX6_trace 17 = .ok (.getfield 10, 3) := by decide +kernel
theorem dX6_trace_20 : decode cX6_trace 20 = .ok (.getfield 169, 3) := by decide +kernel
theorem dX6_trace_23 : decode cX6_trace 23 = .ok (.iload_n 1, 1) := by decide +kernel
theorem dX6_trace_24 : decode cX6_trace 24 = .ok (.iload_n 2, 1) := by decide +kernel
theorem dX6_trace_25 : decode cX6_trace 25 = .ok (.invokevirtual 173, 3) := by decide +kernel
theorem dX6_trace_28 : decode cX6_trace 28 = .ok (.ireturn, 1) := by decide +kernel
theorem dX6_use_0 : decode cX6_use 0 = .ok (.aload_n 0, 1) := by decide +kernel
theorem dX6_use_1 : decode cX6_use 1 = .ok (.getfield 10, 3) := by decide +kernel
theorem dX6_use_4 : decode cX6_use 4 = .ok (.getfield 152, 3) := by decide +kernel
theorem dX6_use_7 : decode cX6_use 7 = .ok (.ifCond .ne 5, 3) := by decide +kernel
theorem dX6_use_10 : decode cX6_use 10 = .ok (.fconst 0, 1) := by decide +kernel
theorem dX6_use_11 : decode cX6_use 11 = .ok (.freturn, 1) := by decide +kernel
theorem dX6_use_12 : decode cX6_use 12 = .ok (.aload_n 0, 1) := by decide +kernel
theorem dX6_use_13 : decode cX6_use 13 = .ok (.getfield 10, 3) := by decide +kernel
theorem dX6_use_16 : decode cX6_use 16 = .ok (.getfield 152, 3) := by decide +kernel
theorem dX6_use_19 : decode cX6_use 19 = .ok (.aload_n 0, 1) := by decide +kernel
theorem dX6_use_20 : decode cX6_use 20 = .ok (.getfield 10, 3) := by decide +kernel
theorem dX6_use_23 : decode cX6_use 23 = .ok (.getfield 155, 3) := by decide +kernel
theorem dX6_use_26 : decode cX6_use 26 = .ok (.isub, 1) := by decide +kernel
theorem dX6_use_27 : decode cX6_use 27 = .ok (.i2f, 1) := by decide +kernel
theorem dX6_use_28 : decode cX6_use 28 = .ok (.aload_n 0, 1) := by decide +kernel
theorem dX6_use_29 : decode cX6_use 29 = .ok (.getfield 10, 3) := by decide +kernel
theorem dX6_use_32 : decode cX6_use 32 = .ok (.getfield 152, 3) := by decide +kernel
theorem dX6_use_35 : decode cX6_use 35 = .ok (.i2f, 1) := by decide +kernel
theorem dX6_use_36 : decode cX6_use 36 = .ok (.fdiv, 1) := by decide +kernel
theorem dX6_use_37 : decode cX6_use 37 = .ok (.freturn, 1) := by decide +kernel
set_option maxRecDepth 20000 in
theorem ggX6_nextThread_X3_findIssuer : GoodIn wsX6_nextThread wsX3_findIssuer := goodIn_r _ [6, 7, 8, 9, 10, 11, 5, 12, 13, 14, 15, 16, 17, 18, 19, 20, 21, 22, 23, 24, 25, 26, 27, 28, 29, 30, 31, 32, 33, 34, 35, 36, 37, 38, 39, 40, 45, 46, 47, 48, 49, 50, 51, 52, 53, 54, 55, 56, 57, 58, 59, 60, 61, 62, 63, 64] (by decide +kernel) (by decide +kernel)
set_option maxRecDepth 20000 in
theorem gX6_nextThread_X3_findIssuer : GoodIn wsX6_nextThread (wsV RX6 177 RX3 yX3_findIssuer wsX3_findIssuer) := goodIn_app (goodIn_of _ (by decide +kernel)) ggX6_nextThread_X3_findIssuer
theorem dX6_nextThread_0 : decode cX6_nextThread 0 = .ok (.aload_n 0, 1) := by decide +kernel
theorem dX6_nextThread_1 : decode cX6_nextThread 1 = .ok (.getfield 10, 3) := by decide +kernel
theorem dX6_nextThread_4 : decode cX6_nextThread 4 = .ok (.invokevirtual 177, 3) := by decide +kernel
theorem dX6_nextThread_7 : decode cX6_nextThread 7 = .ok (.ireturn, 1) := by decide +kernel
set_option maxRecDepth 20000 in
theorem ggX6_cyclesLeft_X6_tryOut : GoodIn wsX6_cyclesLeft wsX6_tryOut := goodIn_r _ [6, 7, 1, 8, 9, 10, 11, 12, 13, 14, 15, 16, 17, 18, 19, 20, 21, 22, 23, 24, 25, 26, 27, 28, 29, 30, 31, 32, 33, 34, 35, 36, 37, 38, 39, 40, 41, 42, 43, 44, 45, 46, 47, 48, 49, 50, 51, 52, 53, 54, 55, 56, 57, 58, 59, 60, 61, 62, 63, 64, 65, 66, 67, 68, 69, 70, 71, 72, 73, 74, 75, 76, 77, 78, 79, 80, 81, 82, 83, 84, 85, 86, 87, 88, 89, 90, 91, 92, 93, 94, 95, 96, 97, 98, 99, 100, 101, 102, 103, 104, 105, 106, 107, 108, 109, 110, 111, 112, 113, 114, 115, 116, 117, 118, 119, 120, 121, 122, 123, 5, 124, 125, 126, 127, 128, 129, 130, 131, 132, 133, 134, 135, 136, 137, 138, 139, 140, 141, 142, 143, 144, 145, 146, 147, 148, 149, 150, 151, 152, 153, 154, 155, 156, 157, 158, 159, 160, 161, 162, 163, 164, 165, 166, 167, 168, 169, 170, 171, 172, 173, 174, 175, 176, 177, 178, 179, 180, 181, 182, 183, 184, 185, 186, 187] (by decide +kernel) (by decide +kernel)
set_option maxRecDepth 20000 in
theorem gX6_cyclesLeft_X6_tryOut : GoodIn wsX6_cyclesLeft (wsV RX6 180 RX6 yX6_tryOut wsX6_tryOut) := goodIn_app (goodIn_of _ (by decide +kernel)) ggX6_cyclesLeft_X6_tryOut
theorem dX6_cyclesLeft_0 : decode cX6_cyclesLeft 0 = .ok (.aload_n 0, 1) := by decide +kernel
theorem dX6_cyclesLeft_1 : decode cX6_cyclesLeft 1 = .ok (.aload_n 0, 1) := by decide +kernel
theorem dX6_cyclesLeft_2 : decode cX6_cyclesLeft 2 = .ok (.getfield 10, 3) := by decide +kernel
theorem dX6_cyclesLeft_5 : decode cX6_cyclesLeft 5 = .ok (.getfield 119, 3) := by decide +kernel
theorem dX6_cyclesLeft_8 : decode cX6_cyclesLeft 8 = .ok (.iconst 0, 1) := by decide +kernel
theorem dX6_cyclesLeft_9 : decode cX6_cyclesLeft 9 = .ok (.iaload, 1) := by decide +kernel
theorem dX6_cyclesLeft_10 : decode cX6_cyclesLeft 10 = .ok (.aload_n 0, 1) := by decide +kernel
theorem dX6_cyclesLeft_11 : decode cX6_cyclesLeft 11 = .ok (.getfield 10, 3) := by decide +kernel
theorem dX6_cyclesLeft_14 : decode cX6_cyclesLeft 14 = .ok (.getfield 119, 3) := by decide +kernel
theorem dX6_cyclesLeft_17 : decode cX6_cyclesLeft 17 = .ok (.iconst 1, 1) := by decide +kernel
theorem dX6_cyclesLeft_18 : decode cX6_cyclesLeft 18 = .ok (.iaload, 1) := by decide +kernel
theorem dX6_cyclesLeft_19 : decode cX6_cyclesLeft 19 = .ok (.invokevirtual 180, 3) := by decide +kernel
theorem dX6_cyclesLeft_22 : decode cX6_cyclesLeft 22 = .ok (.ireturn, 1) := by decide +kernel
set_option maxRecDepth 20000 in
theorem ggX6_cyclesIf_X6_isWithin : GoodIn wsX6_cyclesIf wsX6_isWithin := goodIn_r _ [5] (by decide +kernel) (by decide +kernel)
set_option maxRecDepth 20000 in
theorem gX6_cyclesIf_X6_isWithin : GoodIn wsX6_cyclesIf (va_wsS RX6 115 yX6_isWithin wsX6_isWithin) := goodIn_app (goodIn_of _ (by decide +kernel)) ggX6_cyclesIf_X6_isWithin
set_option maxRecDepth 20000 in
theorem ggX6_cyclesIf_X6_tryOut : GoodIn wsX6_cyclesIf wsX6_tryOut := goodIn_r _ [9, 10, 11, 12, 13, 14, 15, 16, 17, 18, 19, 20, 21, 22, 23, 24, 25, 26, 27, 28, 29, 30, 31, 32, 33, 34, 35, 36, 37, 38, 39, 40, 41, 42, 43, 44, 45, 46, 47, 48, 49, 50, 51, 52, 53, 54, 55, 56, 57, 58, 59, 60, 61, 62, 63, 64, 65, 66, 67, 68, 69, 70, 71, 72, 73, 74, 75, 76, 77, 78, 79, 80, 81, 82, 83, 84, 85, 86, 87, 88, 89, 90, 91, 92, 93, 94, 95, 96, 97, 98, 99, 100, 101, 102, 103, 104, 105, 106, 107, 108, 109, 110, 111, 112, 113, 114, 115, 116, 117, 118, 119, 120, 121, 122, 123, 124, 125, 126, 127, 4, 128, 2, 3, 5, 129, 130, 131, 132, 133, 134, 135, 136, 137, 138, 139, 140, 141, 142, 143, 144, 145, 146, 147, 148, 149, 150, 151, 152, 153, 154, 155, 156, 157, 158, 159, 160, 161, 162, 163, 164, 165, 166, 167, 168, 169, 170, 171, 172, 173, 174, 175, 176, 177, 178, 179, 180, 181, 182, 183, 184, 185, 186, 187, 188] (by decide +kernel) (by decide +kernel)
set_option maxRecDepth 20000 in
theorem gX6_cyclesIf_X6_tryOut : GoodIn wsX6_cyclesIf (wsV RX6 180 RX6 yX6_tryOut wsX6_tryOut) := goodIn_app (goodIn_of _ (by decide +kernel)) ggX6_cyclesIf_X6_tryOut
theorem dX6_cyclesIf_0 : decode cX6_cyclesIf 0 = .ok (.iload_n 1, 1) := by decide +kernel
theorem dX6_cyclesIf_1 : decode cX6_cyclesIf 1 = .ok (.iconst 0, 1) := by decide +kernel
theorem dX6_cyclesIf_2 : decode cX6_cyclesIf 2 = .ok (.bipush 20, 2) := by decide +kernel
theorem dX6_cyclesIf_4 : decode cX6_cyclesIf 4 = .ok (.invokestatic 115, 3) := by decide +kernel
theorem dX6_cyclesIf_7 : decode cX6_cyclesIf 7 = .ok (.ifCond .eq 12, 3) := by decide +kernel
theorem dX6_cyclesIf_10 : decode cX6_cyclesIf 10 = .ok (.iload_n 2, 1) := by decide +kernel
theorem dX6_cyclesIf_11 : decode cX6_cyclesIf 11 = .ok (.iconst 0, 1) := by decide +kernel
theorem dX6_cyclesIf_12 : decode cX6_cyclesIf 12 = .ok (.iconst 2, 1) := by decide +kernel
theorem dX6_cyclesIf_13 : decode cX6_cyclesIf 13 = .ok (.invokestatic 115, 3) := by decide +kernel
theorem dX6_cyclesIf_16 : decode cX6_cyclesIf 16 = .ok (.ifCond .ne 6, 3) := by decide +kernel
theorem dX6_cyclesIf_19 : decode cX6_cyclesIf 19 = .ok (.ldc 91, 2) := by decide +kernel
theorem dX6_cyclesIf_21 : decode cX6_cyclesIf 21 = .ok (.ireturn, 1) := by decide +kernel
theorem dX6_cyclesIf_22 : decode cX6_cyclesIf 22 = .ok (.aload_n 0, 1) := by decide +kernel
theorem dX6_cyclesIf_23 : decode cX6_cyclesIf 23 = .ok (.iload_n 1, 1) := by decide +kernel
theorem dX6_cyclesIf_24 : decode cX6_cyclesIf 24 = .ok (.iload_n 2, 1) := by decide +kernel
theorem dX6_cyclesIf_25 : decode cX6_cyclesIf 25 = .ok (.invokevirtual 180, 3) := by decide +kernel
theorem dX6_cyclesIf_28 : decode cX6_cyclesIf 28 = .ok (.ireturn, 1) := by decide +kernel
set_option maxRecDepth 20000 in
theorem ggX6_finalWord_X6_isWord : GoodIn wsX6_finalWord wsX6_isWord := goodIn_r _ [8, 9, 10, 7, 11] (by decide +kernel) (by decide +kernel)
set_option maxRecDepth 20000 in
theorem gX6_finalWord_X6_isWord : GoodIn wsX6_finalWord (va_wsS RX6 100 yX6_isWord wsX6_isWord) := goodIn_app (goodIn_of _ (by decide +kernel)) ggX6_finalWord_X6_isWord
set_option maxRecDepth 20000 in
theorem ggX6_finalWord_X6_tryOut : GoodIn wsX6_finalWord wsX6_tryOut := goodIn_r _ [15, 4, 2, 16, 17, 18, 19, 20, 21, 22, 23, 24, 25, 26, 27, 28, 29, 30, 31, 32, 33, 34, 35, 36, 37, 38, 39, 40, 41, 42, 43, 44, 45, 46, 47, 48, 49, 50, 51, 52, 53, 54, 55, 56, 57, 58, 59, 60, 61, 62, 63, 64, 65, 66, 67, 68, 69, 70, 71, 72, 73, 74, 75, 76, 77, 78, 79, 80, 81, 82, 83, 84, 85, 86, 87, 88, 89, 90, 91, 92, 93, 94, 95, 96, 97, 98, 99, 100, 101, 102, 103, 104, 105, 106, 107, 108, 109, 110, 111, 112, 113, 114, 115, 116, 117, 118, 119, 120, 121, 122, 123, 124, 125, 126, 127, 128, 129, 130, 131, 7, 132, 9, 10, 11, 133, 134, 135, 136, 137, 138, 139, 140, 141, 142, 143, 144, 145, 146, 147, 148, 149, 150, 151, 152, 153, 154, 155, 156, 157, 158, 159, 160, 161, 162, 163, 164, 165, 166, 167, 168, 169, 170, 171, 172, 173, 174, 175, 176, 177, 178, 179, 180, 181, 182, 183, 184, 185, 186, 187, 188, 189, 190, 191, 192] (by decide +kernel) (by decide +kernel)
set_option maxRecDepth 20000 in
theorem gX6_finalWord_X6_tryOut : GoodIn wsX6_finalWord (wsV RX6 180 RX6 yX6_tryOut wsX6_tryOut) := goodIn_app (goodIn_of _ (by decide +kernel)) ggX6_finalWord_X6_tryOut
theorem dX6_finalWord_0 : decode cX6_finalWord 0 = .ok (.iload_n 1, 1) := by decide +kernel
theorem dX6_finalWord_1 : decode cX6_finalWord 1 = .ok (.invokestatic 100, 3) := by decide +kernel
theorem dX6_finalWord_4 : decode cX6_finalWord 4 = .ok (.ifCond .ne 6, 3) := by decide +kernel
theorem dX6_finalWord_7 : decode cX6_finalWord 7 = .ok (.ldc 37, 2) := by decide +kernel
theorem dX6_finalWord_9 : decode cX6_finalWord 9 = .ok (.ireturn, 1) := by decide +kernel
theorem dX6_finalWord_10 : decode cX6_finalWord 10 = .ok (.aload_n 0, 1) := by decide +kernel
theorem dX6_finalWord_11 : decode cX6_finalWord 11 = .ok (.aload_n 0, 1) := by decide +kernel
theorem dX6_finalWord_12 : decode cX6_finalWord 12 = .ok (.getfield 10, 3) := by decide +kernel
theorem dX6_finalWord_15 : decode cX6_finalWord 15 = .ok (.getfield 119, 3) := by decide +kernel
theorem dX6_finalWord_18 : decode cX6_finalWord 18 = .ok (.iconst 0, 1) := by decide +kernel
theorem dX6_finalWord_19 : decode cX6_finalWord 19 = .ok (.iaload, 1) := by decide +kernel
theorem dX6_finalWord_20 : decode cX6_finalWord 20 = .ok (.aload_n 0, 1) := by decide +kernel
theorem dX6_finalWord_21 : decode cX6_finalWord 21 = .ok (.getfield 10, 3) := by decide +kernel
theorem dX6_finalWord_24 : decode cX6_finalWord 24 = .ok (.getfield 119, 3) := by decide +kernel
theorem dX6_finalWord_27 : decode cX6_finalWord 27 = .ok (.iconst 1, 1) := by decide +kernel
theorem dX6_finalWord_28 : decode cX6_finalWord 28 = .ok (.iaload, 1) := by decide +kernel
theorem dX6_finalWord_29 : decode cX6_finalWord 29 = .ok (.invokevirtual 180, 3) := by decide +kernel
theorem dX6_finalWord_32 : decode cX6_finalWord 32 = .ok (.istore_n 2, 1) := by decide +kernel
theorem dX6_finalWord_33 : decode cX6_finalWord 33 = .ok (.iload_n 2, 1) := by decide +kernel
theorem dX6_finalWord_34 : decode cX6_finalWord 34 = .ok (.ldc 42, 2) := by decide +kernel
theorem dX6_finalWord_36 : decode cX6_finalWord 36 = .ok (.if_icmp .ne 8, 3) := by decide +kernel
theorem dX6_finalWord_39 : decode cX6_finalWord 39 = .ok (.ldc 42, 2) := by decide +kernel
theorem dX6_finalWord_41 : decode cX6_finalWord 41 = .ok (.goto 12, 3) := by decide +kernel
theorem dX6_finalWord_44 : decode cX6_finalWord 44 = .ok (.aload_n 0, 1) := by decide +kernel
theorem dX6_finalWord_45 : decode cX6_finalWord 45 = .ok (.getfield 16, 3) := by decide +kernel
theorem dX6_finalWord_48 : decode cX6_finalWord 48 = .ok (.getfield 103, 3) := by decide +kernel
theorem dX6_finalWord_51 : decode cX6_finalWord 51 = .ok (.iload_n 1, 1) := by decide +kernel
theorem dX6_finalWord_52 : decode cX6_finalWord 52 = .ok (.iaload, 1) := by decide +kernel
theorem dX6_finalWord_53 : decode cX6_finalWord 53 = .ok (.ireturn, 1) := by decide +kernel
set_option maxRecDepth 20000 in
theorem ggX6_tryOut_X3_copyFrom : GoodIn wsX6_tryOut wsX3_copyFrom := goodIn_r _ [7, 8, 9, 10, 11, 12, 13, 14, 15, 16, 17, 18, 19, 20, 21, 22, 23, 24, 25, 26, 27, 28, 29, 30, 31, 32, 33, 34, 35, 36, 37, 38, 39, 40, 41, 42, 43, 44, 45, 46, 47, 48, 49, 50, 51, 52, 53, 54, 159, 160, 161, 162, 163, 164, 165, 166, 167, 168, 169, 170, 171, 172, 173, 174, 175, 176, 177, 178, 179, 180, 181, 182, 183] (by decide +kernel) (by decide +kernel)
set_option maxRecDepth 20000 in
theorem gX6_tryOut_X3_copyFrom : GoodIn wsX6_tryOut (wsV RX6 183 RX3 yX3_copyFrom wsX3_copyFrom) := goodIn_app (goodIn_of _ (by decide +kernel)) ggX6_tryOut_X3_copyFrom
set_option maxRecDepth 20000 in
theorem ggX6_tryOut_X3_runToEnd : GoodIn wsX6_tryOut wsX3_runToEnd := goodIn_r _ [58, 59, 60, 61, 62, 6, 63, 8, 64, 65, 66, 67, 20, 19, 68, 69, 70, 71, 15, 72, 73, 74, 24, 75, 28, 32, 76, 77, 78, 79, 80, 81, 82, 83, 84, 85, 86, 87, 17, 88, 89, 90, 91, 92, 93, 94, 95, 16, 96, 97, 98, 99, 100, 101, 102, 103, 104, 105, 106, 107, 108, 109, 110, 111, 112, 113, 36, 37, 114, 115, 116, 117, 118, 119, 120, 121, 122, 123, 124, 125, 126, 127, 18, 128, 129, 130, 49, 131, 53, 51, 54, 132, 133, 134, 135, 136, 137, 138, 9, 139, 140, 141, 142, 143, 144, 145, 146, 147, 148, 149, 150, 151, 30, 31, 152, 153, 154, 159, 160, 161, 162, 163, 164, 165, 166, 167, 168, 169, 170, 171, 172, 173, 174, 175, 176, 177, 178, 181, 182, 183, 179, 180] (by decide +kernel) (by decide +kernel)
set_option maxRecDepth 20000 in
theorem gX6_tryOut_X3_runToEnd : GoodIn wsX6_tryOut (wsV RX6 186 RX3 yX3_runToEnd wsX3_runToEnd) := goodIn_app (goodIn_of _ (by decide +kernel)) ggX6_tryOut_X3_runToEnd
theorem dX6_tryOut_0 : decode cX6_tryOut 0 = .ok (.aload_n 0, 1) := by decide +kernel
theorem dX6_tryOut_1 : decode cX6_tryOut 1 = .ok (.getfield 16, 3) := by decide +kernel
theorem dX6_tryOut_4 : decode cX6_tryOut 4 = .ok (.aload_n 0, 1) := by decide +kernel
theorem dX6_tryOut_5 : decode cX6_tryOut 5 = .ok (.getfield 10, 3) := by decide +kernel
theorem dX6_tryOut_8 : decode cX6_tryOut 8 = .ok (.invokevirtual 183, 3) := by decide +kernel
theorem dX6_tryOut_11 : decode cX6_tryOut 11 = .ok (.aload_n 0, 1) := by decide +kernel
theorem dX6_tryOut_12 : decode cX6_tryOut 12 = .ok (.getfield 16, 3) := by decide +kernel
theorem dX6_tryOut_15 : decode cX6_tryOut 15 = .ok (.getfield 119, 3) := by decide +kernel
theorem dX6_tryOut_18 : decode cX6_tryOut 18 = .ok (.iconst 0, 1) := by decide +kernel
theorem dX6_tryOut_19 : decode cX6_tryOut 19 = .ok (.iload_n 1, 1) := by decide +kernel
theorem dX6_tryOut_20 : decode cX6_tryOut 20 = .ok (.iastore, 1) := by decide +kernel
theorem dX6_tryOut_21 : decode cX6_tryOut 21 = .ok (.aload_n 0, 1) := by decide +kernel
theorem dX6_tryOut_22 : decode cX6_tryOut 22 = .ok (.getfield 16, 3) := by decide +kernel
theorem dX6_tryOut_25 : decode cX6_tryOut 25 = .ok (.getfield 119, 3) := by decide +kernel
theorem dX6_tryOut_28 : decode cX6_tryOut 28 = .ok (.iconst 1, 1) := by decide +kernel
theorem dX6_tryOut_29 : decode cX6_tryOut 29 = .ok (.iload_n 2, 1) := by decide +kernel
theorem dX6_tryOut_30 : decode cX6_tryOut 30 = .ok (.iastore, 1) := by decide +kernel
theorem dX6_tryOut_31 : decode cX6_tryOut 31 = .ok (.aload_n 0, 1) := by decide +kernel
theorem dX6_tryOut_32 : decode cX6_tryOut 32 = .ok (.getfield 16, 3) := by decide +kernel
theorem dX6_tryOut_35 : decode cX6_tryOut 35 = .ok (.invokevirtual 186, 3) := by decide +kernel
theorem dX6_tryOut_38 : decode cX6_tryOut 38 = .ok (.ireturn, 1) := by decide +kernel
theorem dX6_replace_0 : decode cX6_replace 0 = .ok (.aload_n 0, 1) := by decide +kernel
theorem dX6_replace_1 : decode cX6_replace 1 = .ok (.iload_n 1, 1) := by decide +kernel
theorem dX6_replace_2 : decode cX6_replace 2 = .ok (.iaload, 1) := by decide +kernel
theorem dX6_replace_3 : decode cX6_replace 3 = .ok (.istore_n 3, 1) := by decide +kernel
theorem dX6_replace_4 : decode cX6_replace 4 = .ok (.aload_n 0, 1) := by decide +kernel
theorem dX6_replace_5 : decode cX6_replace 5 = .ok (.iload_n 1, 1) := by decide +kernel
theorem dX6_replace_6 : decode cX6_replace 6 = .ok (.iload_n 2, 1) := by decide +kernel
theorem dX6_replace_7 : decode cX6_replace 7 = .ok (.iastore, 1) := by decide +kernel
theorem dX6_replace_8 : decode cX6_replace 8 = .ok (.iload_n 3, 1) := by decide +kernel
theorem dX6_replace_9 : decode cX6_replace 9 = .ok (.ireturn, 1) := by decide +kernel
theorem dX6_isWithin_0 : decode cX6_isWithin 0 = .ok (.iload_n 0, 1) := by decide +kernel
theorem dX6_isWithin_1 : decode cX6_isWithin 1 = .ok (.iload_n 1, 1) := by decide +kernel
theorem dX6_isWithin_2 : decode cX6_isWithin 2 = .ok (.if_icmp .lt 12, 3) := by decide +kernel
theorem dX6_isWithin_5 : decode cX6_isWithin 5 = .ok (.iload_n 0, 1) := by decide +kernel
theorem dX6_isWithin_6 : decode cX6_isWithin 6 = .ok (.iload_n 2, 1) := by decide +kernel
theorem dX6_isWithin_7 : decode cX6_isWithin 7 = .ok (.if_icmp .gt 7, 3) := by decide +kernel
theorem dX6_isWithin_10 : decode cX6_isWithin 10 = .ok (.iconst 1, 1) := by decide +kernel
theorem dX6_isWithin_11 : decode cX6_isWithin 11 = .ok (.goto 4, 3) := by decide +kernel
theorem dX6_isWithin_14 : decode cX6_isWithin 14 = .ok (.iconst 0, 1) := by decide +kernel
theorem dX6_isWithin_15 : decode cX6_isWithin 15 = .ok (.ireturn, 1) := by decide +kernel
set_option maxRecDepth 20000 in
theorem ggX6_isThread_X6_isWithin : GoodIn wsX6_isThread wsX6_isWithin := goodIn_r _ [4] (by decide +kernel) (by decide +kernel)
set_option maxRecDepth 20000 in
theorem gX6_isThread_X6_isWithin : GoodIn wsX6_isThread (va_wsS RX6 115 yX6_isWithin wsX6_isWithin) := goodIn_app (goodIn_of _ (by decide +kernel)) ggX6_isThread_X6_isWithin
theorem dX6_isThread_0 : decode cX6_isThread 0 = .ok (.iload_n 0, 1) := by decide +kernel
theorem dX6_isThread_1 : decode cX6_isThread 1 = .ok (.iconst 0, 1) := by decide +kernel
theorem dX6_isThread_2 : decode cX6_isThread 2 = .ok (.iconst 3, 1) := by decide +kernel
theorem dX6_isThread_3 : decode cX6_isThread 3 = .ok (.invokestatic 115, 3) := by decide +kernel
theorem dX6_isThread_6 : decode cX6_isThread 6 = .ok (.ireturn, 1) := by decide +kernel
set_option maxRecDepth 20000 in
theorem ggX6_isRegister_X6_isWithin : GoodIn wsX6_isRegister wsX6_isWithin := goodIn_r _ [4] (by decide +kernel) (by decide +kernel)
set_option maxRecDepth 20000 in
theorem gX6_isRegister_X6_isWithin : GoodIn wsX6_isRegister (va_wsS RX6 115 yX6_isWithin wsX6_isWithin) := goodIn_app (goodIn_of _ (by decide +kernel)) ggX6_isRegister_X6_isWithin
theorem dX6_isRegister_0 : decode cX6_isRegister 0 = .ok (.iload_n 0, 1) := by decide +kernel
theorem dX6_isRegister_1 : decode cX6_isRegister 1 = .ok (.iconst 0, 1) := by decide +kernel
theorem dX6_isRegister_2 : decode cX6_isRegister 2 = .ok (.iconst 3, 1) := by decide +kernel
theorem dX6_isRegister_3 : decode cX6_isRegister 3 = .ok (.invokestatic 115, 3) := by decide +kernel
theorem dX6_isRegister_6 : decode cX6_isRegister 6 = .ok (.ireturn, 1) := by decide +kernel
set_option maxRecDepth 20000 in
theorem ggX6_isPlace_X6_isWithin : GoodIn wsX6_isPlace wsX6_isWithin := goodIn_r _ [4] (by decide +kernel) (by decide +kernel)
set_option maxRecDepth 20000 in
theorem gX6_isPlace_X6_isWithin : GoodIn wsX6_isPlace (va_wsS RX6 115 yX6_isWithin wsX6_isWithin) := goodIn_app (goodIn_of _ (by decide +kernel)) ggX6_isPlace_X6_isWithin
theorem dX6_isPlace_0 : decode cX6_isPlace 0 = .ok (.iload_n 0, 1) := by decide +kernel
theorem dX6_isPlace_1 : decode cX6_isPlace 1 = .ok (.iconst 0, 1) := by decide +kernel
theorem dX6_isPlace_2 : decode cX6_isPlace 2 = .ok (.bipush 47, 2) := by decide +kernel
theorem dX6_isPlace_4 : decode cX6_isPlace 4 = .ok (.invokestatic 115, 3) := by decide +kernel
theorem dX6_isPlace_7 : decode cX6_isPlace 7 = .ok (.ireturn, 1) := by decide +kernel
set_option maxRecDepth 20000 in
theorem ggX6_isWord_X6_isWithin : GoodIn wsX6_isWord wsX6_isWithin := goodIn_r _ [4] (by decide +kernel) (by decide +kernel)
set_option maxRecDepth 20000 in
theorem gX6_isWord_X6_isWithin : GoodIn wsX6_isWord (va_wsS RX6 115 yX6_isWithin wsX6_isWithin) := goodIn_app (goodIn_of _ (by decide +kernel)) ggX6_isWord_X6_isWithin
theorem dX6_isWord_0 : decode cX6_isWord 0 = .ok (.iload_n 0, 1) := by decide +kernel
theorem dX6_isWord_1 : decode cX6_isWord 1 = .ok (.iconst 0, 1) := by decide +kernel
theorem dX6_isWord_2 : decode cX6_isWord 2 = .ok (.bipush 31, 2) := by decide +kernel
theorem dX6_isWord_4 : decode cX6_isWord 4 = .ok (.invokestatic 115, 3) := by decide +kernel
theorem dX6_isWord_7 : decode cX6_isWord 7 = .ok (.ireturn, 1) := by decide +kernel
set_option maxRecDepth 20000 in
theorem ggX6_isSlot_X6_isWithin : GoodIn wsX6_isSlot wsX6_isWithin := goodIn_r _ [4] (by decide +kernel) (by decide +kernel)
set_option maxRecDepth 20000 in
theorem gX6_isSlot_X6_isWithin : GoodIn wsX6_isSlot (va_wsS RX6 115 yX6_isWithin wsX6_isWithin) := goodIn_app (goodIn_of _ (by decide +kernel)) ggX6_isSlot_X6_isWithin
theorem dX6_isSlot_0 : decode cX6_isSlot 0 = .ok (.iload_n 0, 1) := by decide +kernel
theorem dX6_isSlot_1 : decode cX6_isSlot 1 = .ok (.iconst 0, 1) := by decide +kernel
theorem dX6_isSlot_2 : decode cX6_isSlot 2 = .ok (.bipush 7, 2) := by decide +kernel
theorem dX6_isSlot_4 : decode cX6_isSlot 4 = .ok (.invokestatic 115, 3) := by decide +kernel
theorem dX6_isSlot_7 : decode cX6_isSlot 7 = .ok (.ireturn, 1) := by decide +kernel
set_option maxRecDepth 20000 in
theorem ggX6_isSetting_X6_isWithin : GoodIn wsX6_isSetting wsX6_isWithin := goodIn_r _ [4] (by decide +kernel) (by decide +kernel)
set_option maxRecDepth 20000 in
theorem gX6_isSetting_X6_isWithin : GoodIn wsX6_isSetting (va_wsS RX6 115 yX6_isWithin wsX6_isWithin) := goodIn_app (goodIn_of _ (by decide +kernel)) ggX6_isSetting_X6_isWithin
theorem dX6_isSetting_0 : decode cX6_isSetting 0 = .ok (.iload_n 0, 1) := by decide +kernel
theorem dX6_isSetting_1 : decode cX6_isSetting 1 = .ok (.iconst 0, 1) := by decide +kernel
theorem dX6_isSetting_2 : decode cX6_isSetting 2 = .ok (.iconst 1, 1) := by decide +kernel
theorem dX6_isSetting_3 : decode cX6_isSetting 3 = .ok (.invokestatic 115, 3) := by decide +kernel
theorem dX6_isSetting_6 : decode cX6_isSetting 6 = .ok (.ireturn, 1) := by decide +kernel
set_option maxRecDepth 20000 in
theorem ggX6_isValue_X6_isWithin : GoodIn wsX6_isValue wsX6_isWithin := goodIn_r _ [4] (by decide +kernel) (by decide +kernel)
set_option maxRecDepth 20000 in
theorem gX6_isValue_X6_isWithin : GoodIn wsX6_isValue (va_wsS RX6 115 yX6_isWithin wsX6_isWithin) := goodIn_app (goodIn_of _ (by decide +kernel)) ggX6_isValue_X6_isWithin
theorem dX6_isValue_0 : decode cX6_isValue 0 = .ok (.iload_n 0, 1) := by decide +kernel
theorem dX6_isValue_1 : decode cX6_isValue 1 = .ok (.sipush (-32768), 3) := by decide +kernel
theorem dX6_isValue_4 : decode cX6_isValue 4 = .ok (.sipush 32767, 3) := by decide +kernel
theorem dX6_isValue_7 : decode cX6_isValue 7 = .ok (.invokestatic 115, 3) := by decide +kernel
theorem dX6_isValue_10 : decode cX6_isValue 10 = .ok (.ireturn, 1) := by decide +kernel
theorem dJ11_isValidCodePoint_9a6ad_0 : decode cJ11_isValidCodePoint_9a6ad 0 = .ok (.iload_n 0, 1) := by decide +kernel
theorem dJ11_isValidCodePoint_9a6ad_1 : decode cJ11_isValidCodePoint_9a6ad 1 = .ok (.bipush 16, 2) := by decide +kernel
theorem dJ11_isValidCodePoint_9a6ad_3 : decode cJ11_isValidCodePoint_9a6ad 3 = .ok (.iushr, 1) := by decide +kernel
theorem dJ11_isValidCodePoint_9a6ad_4 : decode cJ11_isValidCodePoint_9a6ad 4 = .ok (.istore_n 1, 1) := by decide +kernel
theorem dJ11_isValidCodePoint_9a6ad_5 : decode cJ11_isValidCodePoint_9a6ad 5 = .ok (.iload_n 1, 1) := by decide +kernel
theorem dJ11_isValidCodePoint_9a6ad_6 : decode cJ11_isValidCodePoint_9a6ad 6 = .ok (.bipush 17, 2) := by decide +kernel
theorem dJ11_isValidCodePoint_9a6ad_8 : decode cJ11_isValidCodePoint_9a6ad 8 = .ok (.if_icmp .ge 7, 3) := by decide +kernel
theorem dJ11_isValidCodePoint_9a6ad_11 : decode cJ11_isValidCodePoint_9a6ad 11 = .ok (.iconst 1, 1) := by decide +kernel
theorem dJ11_isValidCodePoint_9a6ad_12 : decode cJ11_isValidCodePoint_9a6ad 12 = .ok (.goto 4, 3) := by decide +kernel
theorem dJ11_isValidCodePoint_9a6ad_15 : decode cJ11_isValidCodePoint_9a6ad 15 = .ok (.iconst 0, 1) := by decide +kernel
theorem dJ11_isValidCodePoint_9a6ad_16 : decode cJ11_isValidCodePoint_9a6ad 16 = .ok (.ireturn, 1) := by decide +kernel
theorem dJ11_highSurrogate_5068e_0 : decode cJ11_highSurrogate_5068e 0 = .ok (.iload_n 0, 1) := by decide +kernel
theorem dJ11_highSurrogate_5068e_1 : decode cJ11_highSurrogate_5068e 1 = .ok (.bipush 10, 2) := by decide +kernel
theorem dJ11_highSurrogate_5068e_3 : decode cJ11_highSurrogate_5068e 3 = .ok (.iushr, 1) := by decide +kernel
theorem dJ11_highSurrogate_5068e_4 : decode cJ11_highSurrogate_5068e 4 = .ok (.ldc 110, 2) := by decide +kernel
theorem dJ11_highSurrogate_5068e_6 : decode cJ11_highSurrogate_5068e 6 = .ok (.iadd, 1) := by decide +kernel
theorem dJ11_highSurrogate_5068e_7 : decode cJ11_highSurrogate_5068e 7 = .ok (.i2c, 1) := by decide +kernel
theorem dJ11_highSurrogate_5068e_8 : decode cJ11_highSurrogate_5068e 8 = .ok (.ireturn, 1) := by decide +kernel
theorem dJ11_lowSurrogate_5068e_0 : decode cJ11_lowSurrogate_5068e 0 = .ok (.iload_n 0, 1) := by decide +kernel
theorem dJ11_lowSurrogate_5068e_1 : decode cJ11_lowSurrogate_5068e 1 = .ok (.sipush 1023, 3) := by decide +kernel
theorem dJ11_lowSurrogate_5068e_4 : decode cJ11_lowSurrogate_5068e 4 = .ok (.iand, 1) := by decide +kernel
theorem dJ11_lowSurrogate_5068e_5 : decode cJ11_lowSurrogate_5068e 5 = .ok (.ldc 76, 2) := by decide +kernel
theorem dJ11_lowSurrogate_5068e_7 : decode cJ11_lowSurrogate_5068e 7 = .ok (.iadd, 1) := by decide +kernel
theorem dJ11_lowSurrogate_5068e_8 : decode cJ11_lowSurrogate_5068e 8 = .ok (.i2c, 1) := by decide +kernel
theorem dJ11_lowSurrogate_5068e_9 : decode cJ11_lowSurrogate_5068e 9 = .ok (.ireturn, 1) := by decide +kernel
theorem dJ9_max_7cf53_0 : decode cJ9_max_7cf53 0 = .ok (.iload_n 0, 1) := by decide +kernel
theorem dJ9_max_7cf53_1 : decode cJ9_max_7cf53 1 = .ok (.iload_n 1, 1) := by decide +kernel
theorem dJ9_max_7cf53_2 : decode cJ9_max_7cf53 2 = .ok (.if_icmp .lt 7, 3) := by decide +kernel
theorem dJ9_max_7cf53_5 : decode cJ9_max_7cf53 5 = .ok (.iload_n 0, 1) := by decide +kernel
theorem dJ9_max_7cf53_6 : decode cJ9_max_7cf53 6 = .ok (.goto 4, 3) := by decide +kernel
theorem dJ9_max_7cf53_9 : decode cJ9_max_7cf53 9 = .ok (.iload_n 1, 1) := by decide +kernel
theorem dJ9_max_7cf53_10 : decode cJ9_max_7cf53 10 = .ok (.ireturn, 1) := by decide +kernel
theorem dJ9_min_7cf53_0 : decode cJ9_min_7cf53 0 = .ok (.iload_n 0, 1) := by decide +kernel
theorem dJ9_min_7cf53_1 : decode cJ9_min_7cf53 1 = .ok (.iload_n 1, 1) := by decide +kernel
theorem dJ9_min_7cf53_2 : decode cJ9_min_7cf53 2 = .ok (.if_icmp .gt 7, 3) := by decide +kernel
theorem dJ9_min_7cf53_5 : decode cJ9_min_7cf53 5 = .ok (.iload_n 0, 1) := by decide +kernel
theorem dJ9_min_7cf53_6 : decode cJ9_min_7cf53 6 = .ok (.goto 4, 3) := by decide +kernel
theorem dJ9_min_7cf53_9 : decode cJ9_min_7cf53 9 = .ok (.iload_n 1, 1) := by decide +kernel
theorem dJ9_min_7cf53_10 : decode cJ9_min_7cf53 10 = .ok (.ireturn, 1) := by decide +kernel
