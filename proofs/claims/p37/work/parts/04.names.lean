theorem dX0_init_0 : decode cX0_init 0 = .ok (.aload_n 0, 1) := by decide +kernel
theorem dX0_init_1 : decode cX0_init 1 = .ok (.invokespecial 3, 3) := by decide +kernel
theorem dX0_init_4 : decode cX0_init 4 = .ok (.aload_n 0, 1) := by decide +kernel
theorem dX0_init_5 : decode cX0_init 5 = .ok (.iconst 4, 1) := by decide +kernel
theorem dX0_init_6 : decode cX0_init 6 = .ok (.newarray .int, 2) := by decide +kernel
theorem dX0_init_8 : decode cX0_init 8 = .ok (.putfield 9, 3) := by decide +kernel
theorem dX0_init_11 : decode cX0_init 11 = .ok (.aload_n 0, 1) := by decide +kernel
theorem dX0_init_12 : decode cX0_init 12 = .ok (.iconst 0, 1) := by decide +kernel
theorem dX0_init_13 : decode cX0_init 13 = .ok (.putfield 15, 3) := by decide +kernel
theorem dX0_init_16 : decode cX0_init 16 = .ok (.aload_n 0, 1) := by decide +kernel
theorem dX0_init_17 : decode cX0_init 17 = .ok (.iconst (-1), 1) := by decide +kernel
theorem dX0_init_18 : decode cX0_init 18 = .ok (.putfield 19, 3) := by decide +kernel
theorem dX0_init_21 : decode cX0_init 21 = .ok (.return_, 1) := by decide +kernel
set_option maxRecDepth 20000 in
theorem ggX0_startAt_J7_fill_53178 : GoodIn wsX0_startAt wsJ7_fill_53178 := goodIn_r _ [9] (by decide +kernel) (by decide +kernel)
set_option maxRecDepth 20000 in
theorem gX0_startAt_J7_fill_53178 : GoodIn wsX0_startAt (va_wsS RX0 22 yJ7_fill_53178 wsJ7_fill_53178) := goodIn_app (goodIn_of _ (by decide +kernel)) ggX0_startAt_J7_fill_53178
theorem dX0_startAt_0 : decode cX0_startAt 0 = .ok (.aload_n 0, 1) := by decide +kernel
theorem dX0_startAt_1 : decode cX0_startAt 1 = .ok (.getfield 9, 3) := by decide +kernel
theorem dX0_startAt_4 : decode cX0_startAt 4 = .ok (.iconst 0, 1) := by decide +kernel
theorem dX0_startAt_5 : decode cX0_startAt 5 = .ok (.invokestatic 22, 3) := by decide +kernel
theorem dX0_startAt_8 : decode cX0_startAt 8 = .ok (.aload_n 0, 1) := by decide +kernel
theorem dX0_startAt_9 : decode cX0_startAt 9 = .ok (.iconst 1, 1) := by decide +kernel
theorem dX0_startAt_10 : decode cX0_startAt 10 = .ok (.putfield 15, 3) := by decide +kernel
theorem dX0_startAt_13 : decode cX0_startAt 13 = .ok (.aload_n 0, 1) := by decide +kernel
theorem dX0_startAt_14 : decode cX0_startAt 14 = .ok (.iload_n 1, 1) := by decide +kernel
theorem dX0_startAt_15 : decode cX0_startAt 15 = .ok (.putfield 28, 3) := by decide +kernel
theorem dX0_startAt_18 : decode cX0_startAt 18 = .ok (.aload_n 0, 1) := by decide +kernel
theorem dX0_startAt_19 : decode cX0_startAt 19 = .ok (.iconst (-1), 1) := by decide +kernel
theorem dX0_startAt_20 : decode cX0_startAt 20 = .ok (.putfield 19, 3) := by decide +kernel
theorem dX0_startAt_23 : decode cX0_startAt 23 = .ok (.aload_n 0, 1) := by decide +kernel
theorem dX0_startAt_24 : decode cX0_startAt 24 = .ok (.iconst 0, 1) := by decide +kernel
theorem dX0_startAt_25 : decode cX0_startAt 25 = .ok (.putfield 31, 3) := by decide +kernel
theorem dX0_startAt_28 : decode cX0_startAt 28 = .ok (.return_, 1) := by decide +kernel
theorem dX0_haltNow_0 : decode cX0_haltNow 0 = .ok (.aload_n 0, 1) := by decide +kernel
theorem dX0_haltNow_1 : decode cX0_haltNow 1 = .ok (.iconst 0, 1) := by decide +kernel
theorem dX0_haltNow_2 : decode cX0_haltNow 2 = .ok (.putfield 15, 3) := by decide +kernel
theorem dX0_haltNow_5 : decode cX0_haltNow 5 = .ok (.aload_n 0, 1) := by decide +kernel
theorem dX0_haltNow_6 : decode cX0_haltNow 6 = .ok (.iconst 0, 1) := by decide +kernel
theorem dX0_haltNow_7 : decode cX0_haltNow 7 = .ok (.putfield 31, 3) := by decide +kernel
theorem dX0_haltNow_10 : decode cX0_haltNow 10 = .ok (.return_, 1) := by decide +kernel
theorem dX0_beginLoad_0 : decode cX0_beginLoad 0 = .ok (.aload_n 0, 1) := by decide +kernel
theorem dX0_beginLoad_1 : decode cX0_beginLoad 1 = .ok (.iconst 2, 1) := by decide +kernel
theorem dX0_beginLoad_2 : decode cX0_beginLoad 2 = .ok (.putfield 15, 3) := by decide +kernel
theorem dX0_beginLoad_5 : decode cX0_beginLoad 5 = .ok (.aload_n 0, 1) := by decide +kernel
theorem dX0_beginLoad_6 : decode cX0_beginLoad 6 = .ok (.iload_n 1, 1) := by decide +kernel
theorem dX0_beginLoad_7 : decode cX0_beginLoad 7 = .ok (.putfield 34, 3) := by decide +kernel
theorem dX0_beginLoad_10 : decode cX0_beginLoad 10 = .ok (.aload_n 0, 1) := by decide +kernel
theorem dX0_beginLoad_11 : decode cX0_beginLoad 11 = .ok (.iload_n 2, 1) := by decide +kernel
theorem dX0_beginLoad_12 : decode cX0_beginLoad 12 = .ok (.putfield 37, 3) := by decide +kernel
theorem dX0_beginLoad_15 : decode cX0_beginLoad 15 = .ok (.aload_n 0, 1) := by decide +kernel
theorem dX0_beginLoad_16 : decode cX0_beginLoad 16 = .ok (.iload_n 3, 1) := by decide +kernel
theorem dX0_beginLoad_17 : decode cX0_beginLoad 17 = .ok (.putfield 40, 3) := by decide +kernel
theorem dX0_beginLoad_20 : decode cX0_beginLoad 20 = .ok (.return_, 1) := by decide +kernel
theorem dX0_hasLoadDue_0 : decode cX0_hasLoadDue 0 = .ok (.aload_n 0, 1) := by decide +kernel
theorem dX0_hasLoadDue_1 : decode cX0_hasLoadDue 1 = .ok (.getfield 15, 3) := by decide +kernel
theorem dX0_hasLoadDue_4 : decode cX0_hasLoadDue 4 = .ok (.iconst 2, 1) := by decide +kernel
theorem dX0_hasLoadDue_5 : decode cX0_hasLoadDue 5 = .ok (.if_icmp .ne 15, 3) := by decide +kernel
theorem dX0_hasLoadDue_8 : decode cX0_hasLoadDue 8 = .ok (.aload_n 0, 1) := by decide +kernel
theorem dX0_hasLoadDue_9 : decode cX0_hasLoadDue 9 = .ok (.getfield 40, 3) := by decide +kernel
theorem dX0_hasLoadDue_12 : decode cX0_hasLoadDue 12 = .ok (.iload_n 1, 1) := by decide +kernel
theorem dX0_hasLoadDue_13 : decode cX0_hasLoadDue 13 = .ok (.if_icmp .gt 7, 3) := by decide +kernel
theorem dX0_hasLoadDue_16 : decode cX0_hasLoadDue 16 = .ok (.iconst 1, 1) := by decide +kernel
theorem dX0_hasLoadDue_17 : decode cX0_hasLoadDue 17 = .ok (.goto 4, 3) := by decide +kernel
theorem dX0_hasLoadDue_20 : decode cX0_hasLoadDue 20 = .ok (.iconst 0, 1) := by decide +kernel
theorem dX0_hasLoadDue_21 : decode cX0_hasLoadDue 21 = .ok (.ireturn, 1) := by decide +kernel
theorem dX0_countCycle_0 : decode cX0_countCycle 0 = .ok (.aload_n 0, 1) := by decide +kernel
theorem dX0_countCycle_1 : decode cX0_countCycle 1 = .ok (.iload_n 1, 1) := by decide +kernel
theorem dX0_countCycle_2 : decode cX0_countCycle 2 = .ok (.ifCond .eq 12, 3) := by decide +kernel
theorem dX0_countCycle_5 : decode cX0_countCycle 5 = .ok (.aload_n 0, 1) := by decide +kernel
theorem dX0_countCycle_6 : decode cX0_countCycle 6 = .ok (.getfield 31, 3) := by decide +kernel
theorem dX0_countCycle_9 : decode cX0_countCycle 9 = .ok (.iconst 1, 1) := by decide +kernel
theorem dX0_countCycle_10 : decode cX0_countCycle 10 = .ok (.iadd, 1) := by decide +kernel
theorem dX0_countCycle_11 : decode cX0_countCycle 11 = .ok (.goto 4, 3) := by decide +kernel
theorem dX0_countCycle_14 : decode cX0_countCycle 14 = .ok (.iconst 0, 1) := by decide +kernel
theorem dX0_countCycle_15 : decode cX0_countCycle 15 = .ok (.putfield 31, 3) := by decide +kernel
theorem dX0_countCycle_18 : decode cX0_countCycle 18 = .ok (.aload_n 0, 1) := by decide +kernel
theorem dX0_countCycle_19 : decode cX0_countCycle 19 = .ok (.aload_n 0, 1) := by decide +kernel
theorem dX0_countCycle_20 : decode cX0_countCycle 20 = .ok (.getfield 43, 3) := by decide +kernel
theorem dX0_countCycle_23 : decode cX0_countCycle 23 = .ok (.aload_n 0, 1) := by decide +kernel
theorem dX0_countCycle_24 : decode cX0_countCycle 24 = .ok (.getfield 31, 3) := by decide +kernel
theorem dX0_countCycle_27 : decode cX0_countCycle 27 = .ok (.invokestatic 46, 3) := by decide +kernel
theorem dX0_countCycle_30 : decode cX0_countCycle 30 = .ok (.putfield 43, 3) := by decide +kernel
theorem dX0_countCycle_33 : decode cX0_countCycle 33 = .ok (.return_, 1) := by decide +kernel
theorem dX0_copyFrom_0 : decode cX0_copyFrom 0 = .ok (.aload_n 1, 1) := by decide +kernel
theorem dX0_copyFrom_1 : decode cX0_copyFrom 1 = .ok (.getfield 9, 3) := by decide +kernel
theorem dX0_copyFrom_4 : decode cX0_copyFrom 4 = .ok (.iconst 0, 1) := by decide +kernel
theorem dX0_copyFrom_5 : decode cX0_copyFrom 5 = .ok (.aload_n 0, 1) := by decide +kernel
theorem dX0_copyFrom_6 : decode cX0_copyFrom 6 = .ok (.getfield 9, 3) := by decide +kernel
theorem dX0_copyFrom_9 : decode cX0_copyFrom 9 = .ok (.iconst 0, 1) := by decide +kernel
theorem dX0_copyFrom_10 : decode cX0_copyFrom 10 = .ok (.iconst 4, 1) := by decide +kernel
theorem dX0_copyFrom_11 : decode cX0_copyFrom 11 = .ok (.invokestatic 52, 3) := by decide +kernel
theorem dX0_copyFrom_14 : decode cX0_copyFrom 14 = .ok (.aload_n 0, 1) := by decide +kernel
theorem dX0_copyFrom_15 : decode cX0_copyFrom 15 = .ok (.aload_n 1, 1) := by decide +kernel
theorem dX0_copyFrom_16 : decode cX0_copyFrom 16 = .ok (.getfield 15, 3) := by decide +kernel
theorem dX0_copyFrom_19 : decode cX0_copyFrom 19 = .ok (.putfield 15, 3) := by decide +kernel
theorem dX0_copyFrom_22 : decode cX0_copyFrom 22 = .ok (.aload_n 0, 1) := by decide +kernel
theorem dX0_copyFrom_23 : decode cX0_copyFrom 23 = .ok (.aload_n 1, 1) := by decide +kernel
theorem dX0_copyFrom_24 : decode cX0_copyFrom 24 = .ok (.getfield 28, 3) := by decide +kernel
theorem dX0_copyFrom_27 : decode cX0_copyFrom 27 = .ok (.putfield 28, 3) := by decide +kernel
theorem dX0_copyFrom_30 : decode cX0_copyFrom 30 = .ok (.aload_n 0, 1) := by decide +kernel
theorem dX0_copyFrom_31 : decode cX0_copyFrom 31 = .ok (.aload_n 1, 1) := by decide +kernel
theorem dX0_copyFrom_32 : decode cX0_copyFrom 32 = .ok (.getfield 34, 3) := by decide +kernel
theorem dX0_copyFrom_35 : decode cX0_copyFrom 35 = .ok (.putfield 34, 3) := by decide +kernel
theorem dX0_copyFrom_38 : decode cX0_copyFrom 38 = .ok (.aload_n 0, 1) := by decide +kernel
theorem dX0_copyFrom_39 : decode cX0_copyFrom 39 = .ok (.aload_n 1, 1) := by decide +kernel
theorem dX0_copyFrom_40 : decode cX0_copyFrom 40 = .ok (.getfield 37, 3) := by decide +kernel
theorem dX0_copyFrom_43 : decode cX0_copyFrom 43 = .ok (.putfield 37, 3) := by decide +kernel
theorem dX0_copyFrom_46 : decode cX0_copyFrom 46 = .ok (.aload_n 0, 1) := by decide +kernel
theorem dX0_copyFrom_47 : decode cX0_copyFrom 47 = .ok (.aload_n 1, 1) := by decide +kernel
theorem dX0_copyFrom_48 : decode cX0_copyFrom 48 = .ok (.getfield 40, 3) := by decide +kernel
theorem dX0_copyFrom_51 : decode cX0_copyFrom 51 = .ok (.putfield 40, 3) := by decide +kernel
theorem dX0_copyFrom_54 : decode cX0_copyFrom 54 = .ok (.aload_n 0, 1) := by decide +kernel
theorem dX0_copyFrom_55 : decode cX0_copyFrom 55 = .ok (.aload_n 1, 1) := by decide +kernel
theorem dX0_copyFrom_56 : decode cX0_copyFrom 56 = .ok (.getfield 19, 3) := by decide +kernel
theorem dX0_copyFrom_59 : decode cX0_copyFrom 59 = .ok (.putfield 19, 3) := by decide +kernel
theorem dX0_copyFrom_62 : decode cX0_copyFrom 62 = .ok (.aload_n 0, 1) := by decide +kernel
theorem dX0_copyFrom_63 : decode cX0_copyFrom 63 = .ok (.aload_n 1, 1) := by decide +kernel
theorem dX0_copyFrom_64 : decode cX0_copyFrom 64 = .ok (.getfield 58, 3) := by decide +kernel
theorem dX0_copyFrom_67 : decode cX0_copyFrom 67 = .ok (.putfield 58, 3) := by decide +kernel
theorem dX0_copyFrom_70 : decode cX0_copyFrom 70 = .ok (.aload_n 0, 1) := by decide +kernel
theorem dX0_copyFrom_71 : decode cX0_copyFrom 71 = .ok (.aload_n 1, 1) := by decide +kernel
theorem dX0_copyFrom_72 : decode cX0_copyFrom 72 = .ok (.getfield 61, 3) := by decide +kernel
theorem dX0_copyFrom_75 : decode cX0_copyFrom 75 = .ok (.putfield 61, 3) := by decide +kernel
theorem dX0_copyFrom_78 : decode cX0_copyFrom 78 = .ok (.aload_n 0, 1) := by decide +kernel
theorem dX0_copyFrom_79 : decode cX0_copyFrom 79 = .ok (.aload_n 1, 1) := by decide +kernel
theorem dX0_copyFrom_80 : decode cX0_copyFrom 80 = .ok (.getfield 31, 3) := by decide +kernel
theorem dX0_copyFrom_83 : decode cX0_copyFrom 83 = .ok (.putfield 31, 3) := by decide +kernel
theorem dX0_copyFrom_86 : decode cX0_copyFrom 86 = .ok (.aload_n 0, 1) := by decide +kernel
theorem dX0_copyFrom_87 : decode cX0_copyFrom 87 = .ok (.aload_n 1, 1) := by decide +kernel
theorem dX0_copyFrom_88 : decode cX0_copyFrom 88 = .ok (.getfield 43, 3) := by decide +kernel
theorem dX0_copyFrom_91 : decode cX0_copyFrom 91 = .ok (.putfield 43, 3) := by decide +kernel
theorem dX0_copyFrom_94 : decode cX0_copyFrom 94 = .ok (.return_, 1) := by decide +kernel
set_option maxRecDepth 20000 in
theorem ggX1_init_X3_init : GoodIn wsX1_init wsX3_init := goodIn_r _ [10, 11, 2, 3, 12, 13, 14, 15, 16, 17, 18, 19, 20, 21, 22, 23, 24, 25, 26, 27, 28, 29, 30, 31, 32, 33, 34, 35, 36, 37, 38, 39, 40, 41, 42, 43, 44, 45, 46, 47, 48, 49, 53, 54, 55, 56, 57, 58, 59, 60, 61, 62, 63, 64, 65, 66, 67, 68, 69, 70, 71, 72, 73, 74, 75, 76, 77] (by decide +kernel) (by decide +kernel)
set_option maxRecDepth 20000 in
theorem gX1_init_X3_init : GoodIn wsX1_init (wsX3_init) := ggX1_init_X3_init
theorem dX1_init_0 : decode cX1_init 0 = .ok (.aload_n 0, 1) := by decide +kernel
theorem dX1_init_1 : decode cX1_init 1 = .ok (.invokespecial 3, 3) := by decide +kernel
theorem dX1_init_4 : decode cX1_init 4 = .ok (.aload_n 0, 1) := by decide +kernel
theorem dX1_init_5 : decode cX1_init 5 = .ok (.iconst 4, 1) := by decide +kernel
theorem dX1_init_6 : decode cX1_init 6 = .ok (.anewarray 11, 3) := by decide +kernel
theorem dX1_init_9 : decode cX1_init 9 = .ok (.putfield 13, 3) := by decide +kernel
theorem dX1_init_12 : decode cX1_init 12 = .ok (.iconst 0, 1) := by decide +kernel
theorem dX1_init_13 : decode cX1_init 13 = .ok (.istore_n 1, 1) := by decide +kernel
theorem dX1_init_14 : decode cX1_init 14 = .ok (.iload_n 1, 1) := by decide +kernel
theorem dX1_init_15 : decode cX1_init 15 = .ok (.iconst 4, 1) := by decide +kernel
theorem dX1_init_16 : decode cX1_init 16 = .ok (.if_icmp .ge 22, 3) := by decide +kernel
theorem dX1_init_19 : decode cX1_init 19 = .ok (.aload_n 0, 1) := by decide +kernel
theorem dX1_init_20 : decode cX1_init 20 = .ok (.getfield 13, 3) := by decide +kernel
theorem dX1_init_23 : decode cX1_init 23 = .ok (.iload_n 1, 1) := by decide +kernel
theorem dX1_init_24 : decode cX1_init 24 = .ok (.new 11, 3) := by decide +kernel
theorem dX1_init_27 : decode cX1_init 27 = .ok (.dup, 1) := by decide +kernel
theorem dX1_init_28 : decode cX1_init 28 = .ok (.invokespecial 17, 3) := by decide +kernel
theorem dX1_init_31 : decode cX1_init 31 = .ok (.aastore, 1) := by decide +kernel
theorem dX1_init_32 : decode cX1_init 32 = .ok (.iinc 1 1, 3) := by decide +kernel
theorem dX1_init_35 : decode cX1_init 35 = .ok (.goto (-21), 3) := by decide +kernel
theorem dX1_init_38 : decode cX1_init 38 = .ok (.return_, 1) := by decide +kernel
set_option maxRecDepth 20000 in
theorem ggX1_remember_X3_copyFrom : GoodIn wsX1_remember wsX3_copyFrom := goodIn_r _ [12, 13, 14, 15, 16, 17, 18, 19, 20, 21, 22, 23, 24, 25, 26, 27, 28, 29, 30, 31, 32, 33, 34, 35, 36, 37, 38, 39, 40, 41, 42, 43, 44, 45, 46, 47, 48, 49, 50, 51, 52, 53, 54, 55, 56, 57, 58, 59, 63, 64, 65, 66, 67, 68, 69, 70, 71, 72, 73, 74, 75, 76, 77, 78, 79, 80, 81, 82, 83, 84, 85, 86, 87] (by decide +kernel) (by decide +kernel)
set_option maxRecDepth 20000 in
theorem gX1_remember_X3_copyFrom : GoodIn wsX1_remember (wsV RX1 22 RX3 yX3_copyFrom wsX3_copyFrom) := goodIn_app (goodIn_of _ (by decide +kernel)) ggX1_remember_X3_copyFrom
theorem dX1_remember_0 : decode cX1_remember 0 = .ok (.aload_n 0, 1) := by decide +kernel
theorem dX1_remember_1 : decode cX1_remember 1 = .ok (.getfield 13, 3) := by decide +kernel
theorem dX1_remember_4 : decode cX1_remember 4 = .ok (.aload_n 0, 1) := by decide +kernel
theorem dX1_remember_5 : decode cX1_remember 5 = .ok (.getfield 18, 3) := by decide +kernel
theorem dX1_remember_8 : decode cX1_remember 8 = .ok (.aaload, 1) := by decide +kernel
theorem dX1_remember_9 : decode cX1_remember 9 = .ok (.aload_n 1, 1) := by decide +kernel
theorem dX1_remember_10 : decode cX1_remember 10 = .ok (.invokevirtual 22, 3) := by decide +kernel
theorem dX1_remember_13 : decode cX1_remember 13 = .ok (.aload_n 0, 1) := by decide +kernel
theorem dX1_remember_14 : decode cX1_remember 14 = .ok (.aload_n 0, 1) := by decide +kernel
theorem dX1_remember_15 : decode cX1_remember 15 = .ok (.getfield 18, 3) := by decide +kernel
theorem dX1_remember_18 : decode cX1_remember 18 = .ok (.iconst 1, 1) := by decide +kernel
theorem dX1_remember_19 : decode cX1_remember 19 = .ok (.iadd, 1) := by decide +kernel
theorem dX1_remember_20 : decode cX1_remember 20 = .ok (.iconst 4, 1) := by decide +kernel
theorem dX1_remember_21 : decode cX1_remember 21 = .ok (.irem, 1) := by decide +kernel
theorem dX1_remember_22 : decode cX1_remember 22 = .ok (.putfield 18, 3) := by decide +kernel
theorem dX1_remember_25 : decode cX1_remember 25 = .ok (.aload_n 0, 1) := by decide +kernel
theorem dX1_remember_26 : decode cX1_remember 26 = .ok (.aload_n 0, 1) := by decide +kernel
theorem dX1_remember_27 : decode cX1_remember 27 = .ok (.getfield 26, 3) := by decide +kernel
theorem dX1_remember_30 : decode cX1_remember 30 = .ok (.iconst 1, 1) := by decide +kernel
theorem dX1_remember_31 : decode cX1_remember 31 = .ok (.iadd, 1) := by decide +kernel
theorem dX1_remember_32 : decode cX1_remember 32 = .ok (.iconst 4, 1) := by decide +kernel
theorem dX1_remember_33 : decode cX1_remember 33 = .ok (.invokestatic 29, 3) := by decide +kernel
theorem dX1_remember_36 : decode cX1_remember 36 = .ok (.putfield 26, 3) := by decide +kernel
theorem dX1_remember_39 : decode cX1_remember 39 = .ok (.return_, 1) := by decide +kernel
set_option maxRecDepth 20000 in
theorem ggX1_restore_X3_copyFrom : GoodIn wsX1_restore wsX3_copyFrom := goodIn_r _ [9, 10, 11, 12, 13, 14, 15, 16, 17, 18, 19, 20, 21, 22, 23, 24, 25, 26, 27, 28, 29, 30, 31, 32, 33, 34, 35, 36, 37, 38, 39, 40, 41, 42, 43, 44, 45, 46, 47, 48, 49, 50, 51, 52, 53, 54, 55, 56, 60, 61, 62, 63, 64, 65, 66, 67, 68, 69, 70, 71, 72, 73, 74, 75, 76, 77, 78, 79, 80, 81, 82, 83, 84] (by decide +kernel) (by decide +kernel)
set_option maxRecDepth 20000 in
theorem gX1_restore_X3_copyFrom : GoodIn wsX1_restore (wsV RX1 22 RX3 yX3_copyFrom wsX3_copyFrom) := goodIn_app (goodIn_of _ (by decide +kernel)) ggX1_restore_X3_copyFrom
theorem dX1_restore_0 : decode cX1_restore 0 = .ok (.aload_n 0, 1) := by decide +kernel
theorem dX1_restore_1 : decode cX1_restore 1 = .ok (.getfield 26, 3) := by decide +kernel
theorem dX1_restore_4 : decode cX1_restore 4 = .ok (.ifCond .ne 6, 3) := by decide +kernel
theorem dX1_restore_7 : decode cX1_restore 7 = .ok (.ldc 35, 2) := by decide +kernel
theorem dX1_restore_9 : decode cX1_restore 9 = .ok (.ireturn, 1) := by decide +kernel
theorem dX1_restore_10 : decode cX1_restore 10 = .ok (.aload_n 0, 1) := by decide +kernel
theorem dX1_restore_11 : decode cX1_restore 11 = .ok (.aload_n 0, 1) := by decide +kernel
theorem dX1_restore_12 : decode cX1_restore 12 = .ok (.getfield 18, 3) := by decide +kernel
theorem dX1_restore_15 : decode cX1_restore 15 = .ok (.iconst 4, 1) := by decide +kernel
theorem dX1_restore_16 : decode cX1_restore 16 = .ok (.iadd, 1) := by decide +kernel
theorem dX1_restore_17 : decode cX1_restore 17 = .ok (.iconst 1, 1) := by decide +kernel
theorem dX1_restore_18 : decode cX1_restore 18 = .ok (.isub, 1) := by decide +kernel
theorem dX1_restore_19 : decode cX1_restore 19 = .ok (.iconst 4, 1) := by decide +kernel
theorem dX1_restore_20 : decode cX1_restore 20 = .ok (.irem, 1) := by decide +kernel
theorem dX1_restore_21 : decode cX1_restore 21 = .ok (.putfield 18, 3) := by decide +kernel
theorem dX1_restore_24 : decode cX1_restore 24 = .ok (.aload_n 0, 1) := by decide +kernel
theorem dX1_restore_25 : decode cX1_restore 25 = .ok (.dup, 1) := by decide +kernel
theorem dX1_restore_26 : decode cX1_restore 26 = .ok (.getfield 26, 3) := by decide +kernel
theorem dX1_restore_29 : decode cX1_restore 29 = .ok (.iconst 1, 1) := by decide +kernel
theorem dX1_restore_30 : decode cX1_restore 30 = .ok (.isub, 1) := by decide +kernel
theorem dX1_restore_31 : decode cX1_restore 31 = .ok (.putfield 26, 3) := by decide +kernel
theorem dX1_restore_34 : decode cX1_restore 34 = .ok (.aload_n 1, 1) := by decide +kernel
theorem dX1_restore_35 : decode cX1_restore 35 = .ok (.aload_n 0, 1) := by decide +kernel
theorem dX1_restore_36 : decode cX1_restore 36 = .ok (.getfield 13, 3) := by decide +kernel
theorem dX1_restore_39 : decode cX1_restore 39 = .ok (.aload_n 0, 1) := by decide +kernel
theorem dX1_restore_40 : decode cX1_restore 40 = .ok (.getfield 18, 3) := by decide +kernel
theorem dX1_restore_43 : decode cX1_restore 43 = .ok (.aaload, 1) := by decide +kernel
theorem dX1_restore_44 : decode cX1_restore 44 = .ok (.invokevirtual 22, 3) := by decide +kernel
theorem dX1_restore_47 : decode cX1_restore 47 = .ok (.aload_n 0, 1) := by decide +kernel
theorem dX1_restore_48 : decode cX1_restore 48 = .ok (.getfield 26, 3) := by decide +kernel
theorem dX1_restore_51 : decode cX1_restore 51 = .ok (.ireturn, 1) := by decide +kernel
set_option maxRecDepth 20000 in
theorem ggX2_init_J7_fill_53178 : GoodIn wsX2_init wsJ7_fill_53178 := goodIn_r _ [11] (by decide +kernel) (by decide +kernel)
set_option maxRecDepth 20000 in
theorem gX2_init_J7_fill_53178 : GoodIn wsX2_init (va_wsS RX2 18 yJ7_fill_53178 wsJ7_fill_53178) := goodIn_app (goodIn_of _ (by decide +kernel)) ggX2_init_J7_fill_53178
theorem dX2_init_0 : decode cX2_init 0 = .ok (.aload_n 0, 1) := by decide +kernel
theorem dX2_init_1 : decode cX2_init 1 = .ok (.invokespecial 3, 3) := by decide +kernel
theorem dX2_init_4 : decode cX2_init 4 = .ok (.aload_n 0, 1) := by decide +kernel
theorem dX2_init_5 : decode cX2_init 5 = .ok (.bipush 50, 2) := by decide +kernel
theorem dX2_init_7 : decode cX2_init 7 = .ok (.newarray .int, 2) := by decide +kernel
theorem dX2_init_9 : decode cX2_init 9 = .ok (.putfield 11, 3) := by decide +kernel
theorem dX2_init_12 : decode cX2_init 12 = .ok (.aload_n 0, 1) := by decide +kernel
theorem dX2_init_13 : decode cX2_init 13 = .ok (.bipush 100, 2) := by decide +kernel
theorem dX2_init_15 : decode cX2_init 15 = .ok (.newarray .int, 2) := by decide +kernel
theorem dX2_init_17 : decode cX2_init 17 = .ok (.putfield 15, 3) := by decide +kernel
theorem dX2_init_20 : decode cX2_init 20 = .ok (.aload_n 0, 1) := by decide +kernel
theorem dX2_init_21 : decode cX2_init 21 = .ok (.getfield 11, 3) := by decide +kernel
theorem dX2_init_24 : decode cX2_init 24 = .ok (.bipush 11, 2) := by decide +kernel
theorem dX2_init_26 : decode cX2_init 26 = .ok (.invokestatic 18, 3) := by decide +kernel
theorem dX2_init_29 : decode cX2_init 29 = .ok (.aload_n 0, 1) := by decide +kernel
theorem dX2_init_30 : decode cX2_init 30 = .ok (.getfield 15, 3) := by decide +kernel
theorem dX2_init_33 : decode cX2_init 33 = .ok (.ldc 24, 2) := by decide +kernel
theorem dX2_init_35 : decode cX2_init 35 = .ok (.invokestatic 18, 3) := by decide +kernel
theorem dX2_init_38 : decode cX2_init 38 = .ok (.return_, 1) := by decide +kernel
theorem dX2_copyRows_0 : decode cX2_copyRows 0 = .ok (.aload_n 1, 1) := by decide +kernel
theorem dX2_copyRows_1 : decode cX2_copyRows 1 = .ok (.getfield 11, 3) := by decide +kernel
theorem dX2_copyRows_4 : decode cX2_copyRows 4 = .ok (.iconst 0, 1) := by decide +kernel
theorem dX2_copyRows_5 : decode cX2_copyRows 5 = .ok (.aload_n 0, 1) := by decide +kernel
theorem dX2_copyRows_6 : decode cX2_copyRows 6 = .ok (.getfield 11, 3) := by decide +kernel
theorem dX2_copyRows_9 : decode cX2_copyRows 9 = .ok (.iload_n 3, 1) := by decide +kernel
theorem dX2_copyRows_10 : decode cX2_copyRows 10 = .ok (.iload_n 2, 1) := by decide +kernel
theorem dX2_copyRows_11 : decode cX2_copyRows 11 = .ok (.invokestatic 25, 3) := by decide +kernel
theorem dX2_copyRows_14 : decode cX2_copyRows 14 = .ok (.aload_n 1, 1) := by decide +kernel
theorem dX2_copyRows_15 : decode cX2_copyRows 15 = .ok (.getfield 15, 3) := by decide +kernel
theorem dX2_copyRows_18 : decode cX2_copyRows 18 = .ok (.iconst 0, 1) := by decide +kernel
theorem dX2_copyRows_19 : decode cX2_copyRows 19 = .ok (.aload_n 0, 1) := by decide +kernel
theorem dX2_copyRows_20 : decode cX2_copyRows 20 = .ok (.getfield 15, 3) := by decide +kernel
theorem dX2_copyRows_23 : decode cX2_copyRows 23 = .ok (.iload_n 3, 1) := by decide +kernel
theorem dX2_copyRows_24 : decode cX2_copyRows 24 = .ok (.iconst 2, 1) := by decide +kernel
theorem dX2_copyRows_25 : decode cX2_copyRows 25 = .ok (.imul, 1) := by decide +kernel
theorem dX2_copyRows_26 : decode cX2_copyRows 26 = .ok (.iload_n 2, 1) := by decide +kernel
theorem dX2_copyRows_27 : decode cX2_copyRows 27 = .ok (.iconst 2, 1) := by decide +kernel
theorem dX2_copyRows_28 : decode cX2_copyRows 28 = .ok (.imul, 1) := by decide +kernel
theorem dX2_copyRows_29 : decode cX2_copyRows 29 = .ok (.invokestatic 25, 3) := by decide +kernel
theorem dX2_copyRows_32 : decode cX2_copyRows 32 = .ok (.return_, 1) := by decide +kernel
set_option maxRecDepth 20000 in
theorem ggX3_init_X2_init : GoodIn wsX3_init wsX2_init := goodIn_r _ [23, 24, 2, 3, 10, 25, 26, 27, 28, 29, 30, 31, 51, 52] (by decide +kernel) (by decide +kernel)
set_option maxRecDepth 20000 in
theorem gX3_init_X2_init : GoodIn wsX3_init (wsX2_init) := ggX3_init_X2_init
set_option maxRecDepth 20000 in
theorem ggX3_init_X5_init : GoodIn wsX3_init wsX5_init := goodIn_r _ [33, 34, 2, 3, 10, 35, 53, 54, 55] (by decide +kernel) (by decide +kernel)
set_option maxRecDepth 20000 in
theorem gX3_init_X5_init_n39 : GoodIn wsX3_init (wsX5_init) := ggX3_init_X5_init
set_option maxRecDepth 20000 in
theorem ggX3_init_X0_init : GoodIn wsX3_init wsX0_init := goodIn_r _ [37, 38, 2, 3, 10, 39, 40, 41, 56, 57, 58, 59, 60, 61, 62, 63, 64, 65, 66] (by decide +kernel) (by decide +kernel)
set_option maxRecDepth 20000 in
theorem gX3_init_X0_init_n44 : GoodIn wsX3_init (wsX0_init) := ggX3_init_X0_init
theorem dX3_init_0 : decode cX3_init 0 = .ok (.aload_n 0, 1) := by decide +kernel
theorem dX3_init_1 : decode cX3_init 1 = .ok (.invokespecial 3, 3) := by decide +kernel
theorem dX3_init_4 : decode cX3_init 4 = .ok (.aload_n 0, 1) := by decide +kernel
theorem dX3_init_5 : decode cX3_init 5 = .ok (.iconst 4, 1) := by decide +kernel
theorem dX3_init_6 : decode cX3_init 6 = .ok (.anewarray 9, 3) := by decide +kernel
theorem dX3_init_9 : decode cX3_init 9 = .ok (.putfield 11, 3) := by decide +kernel
theorem dX3_init_12 : decode cX3_init 12 = .ok (.aload_n 0, 1) := by decide +kernel
theorem dX3_init_13 : decode cX3_init 13 = .ok (.new 17, 3) := by decide +kernel
theorem dX3_init_16 : decode cX3_init 16 = .ok (.dup, 1) := by decide +kernel
theorem dX3_init_17 : decode cX3_init 17 = .ok (.invokespecial 19, 3) := by decide +kernel
theorem dX3_init_20 : decode cX3_init 20 = .ok (.putfield 20, 3) := by decide +kernel
theorem dX3_init_23 : decode cX3_init 23 = .ok (.aload_n 0, 1) := by decide +kernel
theorem dX3_init_24 : decode cX3_init 24 = .ok (.bipush 48, 2) := by decide +kernel
theorem dX3_init_26 : decode cX3_init 26 = .ok (.newarray .int, 2) := by decide +kernel
theorem dX3_init_28 : decode cX3_init 28 = .ok (.putfield 24, 3) := by decide +kernel
theorem dX3_init_31 : decode cX3_init 31 = .ok (.aload_n 0, 1) := by decide +kernel
theorem dX3_init_32 : decode cX3_init 32 = .ok (.bipush 32, 2) := by decide +kernel
theorem dX3_init_34 : decode cX3_init 34 = .ok (.newarray .int, 2) := by decide +kernel
theorem dX3_init_36 : decode cX3_init 36 = .ok (.putfield 28, 3) := by decide +kernel
theorem dX3_init_39 : decode cX3_init 39 = .ok (.aload_n 0, 1) := by decide +kernel
theorem dX3_init_40 : decode cX3_init 40 = .ok (.bipush 8, 2) := by decide +kernel
theorem dX3_init_42 : decode cX3_init 42 = .ok (.newarray .int, 2) := by decide +kernel
theorem dX3_init_44 : decode cX3_init 44 = .ok (.putfield 31, 3) := by decide +kernel
theorem dX3_init_47 : decode cX3_init 47 = .ok (.aload_n 0, 1) := by decide +kernel
theorem dX3_init_48 : decode cX3_init 48 = .ok (.iconst 2, 1) := by decide +kernel
theorem dX3_init_49 : decode cX3_init 49 = .ok (.newarray .int, 2) := by decide +kernel
theorem dX3_init_51 : decode cX3_init 51 = .ok (.putfield 34, 3) := by decide +kernel
theorem dX3_init_54 : decode cX3_init 54 = .ok (.aload_n 0, 1) := by decide +kernel
theorem dX3_init_55 : decode cX3_init 55 = .ok (.new 37, 3) := by decide +kernel
theorem dX3_init_58 : decode cX3_init 58 = .ok (.dup, 1) := by decide +kernel
theorem dX3_init_59 : decode cX3_init 59 = .ok (.invokespecial 39, 3) := by decide +kernel
theorem dX3_init_62 : decode cX3_init 62 = .ok (.putfield 40, 3) := by decide +kernel
theorem dX3_init_65 : decode cX3_init 65 = .ok (.iconst 0, 1) := by decide +kernel
theorem dX3_init_66 : decode cX3_init 66 = .ok (.istore_n 1, 1) := by decide +kernel
theorem dX3_init_67 : decode cX3_init 67 = .ok (.iload_n 1, 1) := by decide +kernel
theorem dX3_init_68 : decode cX3_init 68 = .ok (.iconst 4, 1) := by decide +kernel
theorem dX3_init_69 : decode cX3_init 69 = .ok (.if_icmp .ge 22, 3) := by decide +kernel
theorem dX3_init_72 : decode cX3_init 72 = .ok (.aload_n 0, 1) := by decide +kernel
theorem dX3_init_73 : decode cX3_init 73 = .ok (.getfield 11, 3) := by decide +kernel
theorem dX3_init_76 : decode cX3_init 76 = .ok (.iload_n 1, 1) := by decide +kernel
theorem dX3_init_77 : decode cX3_init 77 = .ok (.new 9, 3) := by decide +kernel
theorem dX3_init_80 : decode cX3_init 80 = .ok (.dup, 1) := by decide +kernel
theorem dX3_init_81 : decode cX3_init 81 = .ok (.invokespecial 44, 3) := by decide +kernel
theorem dX3_init_84 : decode cX3_init 84 = .ok (.aastore, 1) := by decide +kernel
theorem dX3_init_85 : decode cX3_init 85 = .ok (.iinc 1 1, 3) := by decide +kernel
theorem dX3_init_88 : decode cX3_init 88 = .ok (.goto (-21), 3) := by decide +kernel
theorem dX3_init_91 : decode cX3_init 91 = .ok (.iconst 0, 1) := by decide +kernel
theorem dX3_init_92 : decode cX3_init 92 = .ok (.istore_n 1, 1) := by decide +kernel
theorem dX3_init_93 : decode cX3_init 93 = .ok (.iload_n 1, 1) := by decide +kernel
theorem dX3_init_94 : decode cX3_init 94 = .ok (.bipush 8, 2) := by decide +kernel
theorem dX3_init_96 : decode cX3_init 96 = .ok (.if_icmp .ge 18, 3) := by decide +kernel
theorem dX3_init_99 : decode cX3_init 99 = .ok (.aload_n 0, 1) := by decide +kernel
theorem dX3_init_100 : decode cX3_init 100 = .ok (.getfield 31, 3) := by decide +kernel
theorem dX3_init_103 : decode cX3_init 103 = .ok (.iload_n 1, 1) := by decide +kernel
theorem dX3_init_104 : decode cX3_init 104 = .ok (.iload_n 1, 1) := by decide +kernel
theorem dX3_init_105 : decode cX3_init 105 = .ok (.iconst 4, 1) := by decide +kernel
theorem dX3_init_106 : decode cX3_init 106 = .ok (.irem, 1) := by decide +kernel
theorem dX3_init_107 : decode cX3_init 107 = .ok (.iastore, 1) := by decide +kernel
theorem dX3_init_108 : decode cX3_init 108 = .ok (.iinc 1 1, 3) := by decide +kernel
theorem dX3_init_111 : decode cX3_init 111 = .ok (.goto (-18), 3) := by decide +kernel
theorem dX3_init_114 : decode cX3_init 114 = .ok (.aload_n 0, 1) := by decide +kernel
theorem dX3_init_115 : decode cX3_init 115 = .ok (.getfield 34, 3) := by decide +kernel
theorem dX3_init_118 : decode cX3_init 118 = .ok (.iconst 0, 1) := by decide +kernel
theorem dX3_init_119 : decode cX3_init 119 = .ok (.iconst 3, 1) := by decide +kernel
theorem dX3_init_120 : decode cX3_init 120 = .ok (.iastore, 1) := by decide +kernel
theorem dX3_init_121 : decode cX3_init 121 = .ok (.return_, 1) := by decide +kernel
set_option maxRecDepth 20000 in
theorem ggX3_copyFrom_X0_copyFrom : GoodIn wsX3_copyFrom wsX0_copyFrom := goodIn_r _ [18, 19, 20, 5, 6, 7, 21, 22, 23, 24, 25, 26, 27, 28, 29, 30, 57, 58, 59, 60, 61, 62, 63, 64, 65, 66, 67] (by decide +kernel) (by decide +kernel)
set_option maxRecDepth 20000 in
theorem gX3_copyFrom_X0_copyFrom : GoodIn wsX3_copyFrom (wsV RX3 45 RX0 yX0_copyFrom wsX0_copyFrom) := goodIn_app (goodIn_of _ (by decide +kernel)) ggX3_copyFrom_X0_copyFrom
set_option maxRecDepth 20000 in
theorem ggX3_copyFrom_X2_copyRows : GoodIn wsX3_copyFrom wsX2_copyRows := goodIn_r _ [35, 36, 37, 5, 6, 7, 38, 68, 69] (by decide +kernel) (by decide +kernel)
set_option maxRecDepth 20000 in
theorem gX3_copyFrom_X2_copyRows : GoodIn wsX3_copyFrom (wsV RX3 49 RX2 yX2_copyRows wsX2_copyRows) := goodIn_app (goodIn_of _ (by decide +kernel)) ggX3_copyFrom_X2_copyRows
set_option maxRecDepth 20000 in
theorem ggX3_copyFrom_X5_copyFrom : GoodIn wsX3_copyFrom wsX5_copyFrom := goodIn_r _ [43, 44, 45, 5, 6, 7, 46, 47, 70, 71, 72] (by decide +kernel) (by decide +kernel)
set_option maxRecDepth 20000 in
theorem gX3_copyFrom_X5_copyFrom : GoodIn wsX3_copyFrom (wsV RX3 59 RX5 yX5_copyFrom wsX5_copyFrom) := goodIn_app (goodIn_of _ (by decide +kernel)) ggX3_copyFrom_X5_copyFrom
theorem dX3_copyFrom_0 : decode cX3_copyFrom 0 = .ok (.iconst 0, 1) := by decide +kernel
theorem dX3_copyFrom_1 : decode cX3_copyFrom 1 = .ok (.istore_n 2, 1) := by decide +kernel
theorem dX3_copyFrom_2 : decode cX3_copyFrom 2 = .ok (.iload_n 2, 1) := by decide +kernel
theorem dX3_copyFrom_3 : decode cX3_copyFrom 3 = .ok (.iconst 4, 1) := by decide +kernel
theorem dX3_copyFrom_4 : decode cX3_copyFrom 4 = .ok (.if_icmp .ge 24, 3) := by decide +kernel
theorem dX3_copyFrom_7 : decode cX3_copyFrom 7 = .ok (.aload_n 0, 1) := by decide +kernel
theorem dX3_copyFrom_8 : decode cX3_copyFrom 8 = .ok (.getfield 11, 3) := by decide +kernel
theorem dX3_copyFrom_11 : decode cX3_copyFrom 11 = .ok (.iload_n 2, 1) := by decide +kernel
theorem dX3_copyFrom_12 : decode cX3_copyFrom 12 = .ok (.aaload, 1) := by decide +kernel
theorem dX3_copyFrom_13 : decode cX3_copyFrom 13 = .ok (.aload_n 1, 1) := by decide +kernel
theorem dX3_copyFrom_14 : decode cX3_copyFrom 14 = .ok (.getfield 11, 3) := by decide +kernel
theorem dX3_copyFrom_17 : decode cX3_copyFrom 17 = .ok (.iload_n 2, 1) := by decide +kernel
theorem dX3_copyFrom_18 : decode cX3_copyFrom 18 = .ok (.aaload, 1) := by decide +kernel
theorem dX3_copyFrom_19 : decode cX3_copyFrom 19 = .ok (.invokevirtual 45, 3) := by decide +kernel
theorem dX3_copyFrom_22 : decode cX3_copyFrom 22 = .ok (.iinc 2 1, 3) := by decide +kernel
theorem dX3_copyFrom_25 : decode cX3_copyFrom 25 = .ok (.goto (-23), 3) := by decide +kernel
theorem dX3_copyFrom_28 : decode cX3_copyFrom 28 = .ok (.aload_n 0, 1) := by decide +kernel
theorem dX3_copyFrom_29 : decode cX3_copyFrom 29 = .ok (.getfield 20, 3) := by decide +kernel
theorem dX3_copyFrom_32 : decode cX3_copyFrom 32 = .ok (.aload_n 1, 1) := by decide +kernel
theorem dX3_copyFrom_33 : decode cX3_copyFrom 33 = .ok (.getfield 20, 3) := by decide +kernel
theorem dX3_copyFrom_36 : decode cX3_copyFrom 36 = .ok (.bipush 48, 2) := by decide +kernel
theorem dX3_copyFrom_38 : decode cX3_copyFrom 38 = .ok (.iconst 0, 1) := by decide +kernel
theorem dX3_copyFrom_39 : decode cX3_copyFrom 39 = .ok (.invokevirtual 49, 3) := by decide +kernel
theorem dX3_copyFrom_42 : decode cX3_copyFrom 42 = .ok (.aload_n 1, 1) := by decide +kernel
theorem dX3_copyFrom_43 : decode cX3_copyFrom 43 = .ok (.getfield 24, 3) := by decide +kernel
theorem dX3_copyFrom_46 : decode cX3_copyFrom 46 = .ok (.iconst 0, 1) := by decide +kernel
theorem dX3_copyFrom_47 : decode cX3_copyFrom 47 = .ok (.aload_n 0, 1) := by decide +kernel
theorem dX3_copyFrom_48 : decode cX3_copyFrom 48 = .ok (.getfield 24, 3) := by decide +kernel
theorem dX3_copyFrom_51 : decode cX3_copyFrom 51 = .ok (.iconst 0, 1) := by decide +kernel
theorem dX3_copyFrom_52 : decode cX3_copyFrom 52 = .ok (.bipush 48, 2) := by decide +kernel
theorem dX3_copyFrom_54 : decode cX3_copyFrom 54 = .ok (.invokestatic 53, 3) := by decide +kernel
theorem dX3_copyFrom_57 : decode cX3_copyFrom 57 = .ok (.aload_n 1, 1) := by decide +kernel
theorem dX3_copyFrom_58 : decode cX3_copyFrom 58 = .ok (.getfield 28, 3) := by decide +kernel
theorem dX3_copyFrom_61 : decode cX3_copyFrom 61 = .ok (.iconst 0, 1) := by decide +kernel
theorem dX3_copyFrom_62 : decode cX3_copyFrom 62 = .ok (.aload_n 0, 1) := by decide +kernel
theorem dX3_copyFrom_63 : decode cX3_copyFrom 63 = .ok (.getfield 28, 3) := by decide +kernel
theorem dX3_copyFrom_66 : decode cX3_copyFrom 66 = .ok (.iconst 0, 1) := by decide +kernel
theorem dX3_copyFrom_67 : decode cX3_copyFrom 67 = .ok (.bipush 32, 2) := by decide +kernel
theorem dX3_copyFrom_69 : decode cX3_copyFrom 69 = .ok (.invokestatic 53, 3) := by decide +kernel
theorem dX3_copyFrom_72 : decode cX3_copyFrom 72 = .ok (.aload_n 1, 1) := by decide +kernel
theorem dX3_copyFrom_73 : decode cX3_copyFrom 73 = .ok (.getfield 31, 3) := by decide +kernel
theorem dX3_copyFrom_76 : decode cX3_copyFrom 76 = .ok (.iconst 0, 1) := by decide +kernel
theorem dX3_copyFrom_77 : decode cX3_copyFrom 77 = .ok (.aload_n 0, 1) := by decide +kernel
theorem dX3_copyFrom_78 : decode cX3_copyFrom 78 = .ok (.getfield 31, 3) := by decide +kernel
theorem dX3_copyFrom_81 : decode cX3_copyFrom 81 = .ok (.iconst 0, 1) := by decide +kernel
theorem dX3_copyFrom_82 : decode cX3_copyFrom 82 = .ok (.bipush 8, 2) := by decide +kernel
theorem dX3_copyFrom_84 : decode cX3_copyFrom 84 = .ok (.invokestatic 53, 3) := by decide +kernel
theorem dX3_copyFrom_87 : decode cX3_copyFrom 87 = .ok (.aload_n 1, 1) := by decide +kernel
theorem dX3_copyFrom_88 : decode cX3_copyFrom 88 = .ok (.getfield 34, 3) := by decide +kernel
theorem dX3_copyFrom_91 : decode cX3_copyFrom 91 = .ok (.iconst 0, 1) := by decide +kernel
theorem dX3_copyFrom_92 : decode cX3_copyFrom 92 = .ok (.aload_n 0, 1) := by decide +kernel
theorem dX3_copyFrom_93 : decode cX3_copyFrom 93 = .ok (.getfield 34, 3) := by decide +kernel
theorem dX3_copyFrom_96 : decode cX3_copyFrom 96 = .ok (.iconst 0, 1) := by decide +kernel
theorem dX3_copyFrom_97 : decode cX3_copyFrom 97 = .ok (.iconst 2, 1) := by decide +kernel
theorem dX3_copyFrom_98 : decode cX3_copyFrom 98 = .ok (.invokestatic 53, 3) := by decide +kernel
theorem dX3_copyFrom_101 : decode cX3_copyFrom 101 = .ok (.aload_n 0, 1) := by decide +kernel
theorem dX3_copyFrom_102 : decode cX3_copyFrom 102 = .ok (.getfield 40, 3) := by decide +kernel
theorem dX3_copyFrom_105 : decode cX3_copyFrom 105 = .ok (.aload_n 1, 1) := by decide +kernel
theorem dX3_copyFrom_106 : decode cX3_copyFrom 106 = .ok (.getfield 40, 3) := by decide +kernel
theorem dX3_copyFrom_109 : decode cX3_copyFrom 109 = .ok (.invokevirtual 59, 3) := by decide +kernel
theorem dX3_copyFrom_112 : decode cX3_copyFrom 112 = .ok (.aload_n 0, 1) := by decide +kernel
theorem dX3_copyFrom_113 : decode cX3_copyFrom 113 = .ok (.aload_n 1, 1) := by decide +kernel
theorem dX3_copyFrom_114 : decode cX3_copyFrom 114 = .ok (.getfield 62, 3) := by decide +kernel
theorem dX3_copyFrom_117 : decode cX3_copyFrom 117 = .ok (.putfield 62, 3) := by decide +kernel
theorem dX3_copyFrom_120 : decode cX3_copyFrom 120 = .ok (.aload_n 0, 1) := by decide +kernel
theorem dX3_copyFrom_121 : decode cX3_copyFrom 121 = .ok (.aload_n 1, 1) := by decide +kernel
theorem dX3_copyFrom_122 : decode cX3_copyFrom 122 = .ok (.getfield 66, 3) := by decide +kernel
theorem dX3_copyFrom_125 : decode cX3_copyFrom 125 = .ok (.putfield 66, 3) := by decide +kernel
theorem dX3_copyFrom_128 : decode cX3_copyFrom 128 = .ok (.return_, 1) := by decide +kernel
theorem dX3_countBreakpoints_0 : decode cX3_countBreakpoints 0 = .ok (.iconst 0, 1) := by decide +kernel
theorem dX3_countBreakpoints_1 : decode cX3_countBreakpoints 1 = .ok (.istore_n 1, 1) := by decide +kernel
theorem dX3_countBreakpoints_2 : decode cX3_countBreakpoints 2 = .ok (.iconst 0, 1) := by decide +kernel
theorem dX3_countBreakpoints_3 : decode cX3_countBreakpoints 3 = .ok (.istore_n 2, 1) := by decide +kernel
theorem dX3_countBreakpoints_4 : decode cX3_countBreakpoints 4 = .ok (.iload_n 2, 1) := by decide +kernel
theorem dX3_countBreakpoints_5 : decode cX3_countBreakpoints 5 = .ok (.bipush 48, 2) := by decide +kernel
theorem dX3_countBreakpoints_7 : decode cX3_countBreakpoints 7 = .ok (.if_icmp .ge 18, 3) := by decide +kernel
theorem dX3_countBreakpoints_10 : decode cX3_countBreakpoints 10 = .ok (.iload_n 1, 1) := by decide +kernel
theorem dX3_countBreakpoints_11 : decode cX3_countBreakpoints 11 = .ok (.aload_n 0, 1) := by decide +kernel
theorem dX3_countBreakpoints_12 : decode cX3_countBreakpoints 12 = .ok (.getfield 24, 3) := by decide +kernel
theorem dX3_countBreakpoints_15 : decode cX3_countBreakpoints 15 = .ok (.iload_n 2, 1) := by decide +kernel
theorem dX3_countBreakpoints_16 : decode cX3_countBreakpoints 16 = .ok (.iaload, 1) := by decide +kernel
theorem dX3_countBreakpoints_17 : decode cX3_countBreakpoints 17 = .ok (.iadd, 1) := by decide +kernel
theorem dX3_countBreakpoints_18 : decode cX3_countBreakpoints 18 = .ok (.istore_n 1, 1) := by decide +kernel
theorem dX3_countBreakpoints_19 : decode cX3_countBreakpoints 19 = .ok (.iinc 2 1, 3) := by decide +kernel
theorem dX3_countBreakpoints_22 : decode cX3_countBreakpoints 22 = .ok (.goto (-18), 3) := by decide +kernel
theorem dX3_countBreakpoints_25 : decode cX3_countBreakpoints 25 = .ok (.iload_n 1, 1) := by decide +kernel
theorem dX3_countBreakpoints_26 : decode cX3_countBreakpoints 26 = .ok (.ireturn, 1) := by decide +kernel
set_option maxRecDepth 20000 in
theorem ggX3_runToBreakpoint_X3_areAllHalted : GoodIn wsX3_runToBreakpoint wsX3_areAllHalted := goodIn_r _ [5, 6, 122, 123, 124, 125, 126, 127, 128, 129, 130, 131, 132, 133, 134, 135, 136, 137, 138, 139, 140, 141] (by decide +kernel) (by decide +kernel)
set_option maxRecDepth 20000 in
theorem gX3_runToBreakpoint_X3_areAllHalted : GoodIn wsX3_runToBreakpoint (wsV RX3 69 RX3 yX3_areAllHalted wsX3_areAllHalted) := goodIn_app (goodIn_of _ (by decide +kernel)) ggX3_runToBreakpoint_X3_areAllHalted
set_option maxRecDepth 20000 in
theorem ggX3_runToBreakpoint_X3_isAtBreakpoint : GoodIn wsX3_runToBreakpoint wsX3_isAtBreakpoint := goodIn_r _ [10, 6, 11, 12, 13, 14, 4, 15, 16, 17, 18, 19, 20, 21, 22, 23, 24, 25, 26, 27, 28, 29, 30, 31, 32, 33, 34, 35, 36, 37, 38, 39, 40, 41, 42, 43, 44, 45, 46, 47, 48, 49, 50, 51, 52, 53, 54, 55, 56, 122, 123, 124, 125, 126, 127, 128, 129, 130, 131, 132, 133, 134, 135, 136, 137, 138, 139, 140, 141] (by decide +kernel) (by decide +kernel)
set_option maxRecDepth 20000 in
theorem gX3_runToBreakpoint_X3_isAtBreakpoint : GoodIn wsX3_runToBreakpoint (wsV RX3 73 RX3 yX3_isAtBreakpoint wsX3_isAtBreakpoint) := goodIn_app (goodIn_of _ (by decide +kernel)) ggX3_runToBreakpoint_X3_isAtBreakpoint
set_option maxRecDepth 20000 in
theorem ggX3_runToBreakpoint_X3_runCycle : GoodIn wsX3_runToBreakpoint wsX3_runCycle := goodIn_r _ [60, 6, 61, 22, 62, 63, 64, 4, 65, 66, 27, 28, 29, 30, 31, 32, 33, 67, 68, 69, 70, 23, 24, 25, 26, 12, 13, 14, 15, 16, 17, 18, 19, 20, 21, 34, 35, 36, 37, 38, 39, 40, 41, 42, 43, 44, 45, 46, 47, 48, 71, 72, 73, 74, 75, 76, 77, 78, 79, 80, 81, 82, 83, 84, 49, 50, 51, 52, 53, 54, 85, 86, 87, 88, 89, 90, 91, 92, 93, 94, 95, 96, 97, 98, 99, 100, 101, 102, 103, 104, 105, 55, 56, 106, 107, 108, 109, 110, 111, 112, 113, 114, 115, 116, 117, 118, 119, 120, 121, 122, 123, 124, 125, 126, 127, 128, 129, 130, 131, 132, 133, 134, 135, 136, 137, 138, 139, 140, 141, 142, 143, 144, 145, 146] (by decide +kernel) (by decide +kernel)
set_option maxRecDepth 20000 in
theorem gX3_runToBreakpoint_X3_runCycle : GoodIn wsX3_runToBreakpoint (wsV RX3 76 RX3 yX3_runCycle wsX3_runCycle) := goodIn_app (goodIn_of _ (by decide +kernel)) ggX3_runToBreakpoint_X3_runCycle
theorem dX3_runToBreakpoint_0 : decode cX3_runToBreakpoint 0 = .ok (.iconst 0, 1) := by decide +kernel
theorem dX3_runToBreakpoint_1 : decode cX3_runToBreakpoint 1 = .ok (.istore_n 2, 1) := by decide +kernel
theorem dX3_runToBreakpoint_2 : decode cX3_runToBreakpoint 2 = .ok (.iload_n 2, 1) := by decide +kernel
theorem dX3_runToBreakpoint_3 : decode cX3_runToBreakpoint 3 = .ok (.iload_n 1, 1) := by decide +kernel
theorem dX3_runToBreakpoint_4 : decode cX3_runToBreakpoint 4 = .ok (.if_icmp .ge 33, 3) := by decide +kernel
theorem dX3_runToBreakpoint_7 : decode cX3_runToBreakpoint 7 = .ok (.aload_n 0, 1) := by decide +kernel
theorem dX3_runToBreakpoint_8 : decode cX3_runToBreakpoint 8 = .ok (.invokevirtual 69, 3) := by decide +kernel
theorem dX3_runToBreakpoint_11 : decode cX3_runToBreakpoint 11 = .ok (.ifCond .ne 14, 3) := by decide +kernel
theorem dX3_runToBreakpoint_14 : decode cX3_runToBreakpoint 14 = .ok (.iload_n 2, 1) := by decide +kernel
theorem dX3_runToBreakpoint_15 : decode cX3_runToBreakpoint 15 = .ok (.ifCond .le 12, 3) := by decide +kernel
theorem dX3_runToBreakpoint_18 : decode cX3_runToBreakpoint 18 = .ok (.aload_n 0, 1) := by decide +kernel
theorem dX3_runToBreakpoint_19 : decode cX3_runToBreakpoint 19 = .ok (.invokevirtual 73, 3) := by decide +kernel
theorem dX3_runToBreakpoint_22 : decode cX3_runToBreakpoint 22 = .ok (.ifCond .eq 5, 3) := by decide +kernel
theorem dX3_runToBreakpoint_25 : decode cX3_runToBreakpoint 25 = .ok (.iload_n 2, 1) := by decide +kernel
theorem dX3_runToBreakpoint_26 : decode cX3_runToBreakpoint 26 = .ok (.ireturn, 1) := by decide +kernel
theorem dX3_runToBreakpoint_27 : decode cX3_runToBreakpoint 27 = .ok (.aload_n 0, 1) := by decide +kernel
theorem dX3_runToBreakpoint_28 : decode cX3_runToBreakpoint 28 = .ok (.invokevirtual 76, 3) := by decide +kernel
theorem dX3_runToBreakpoint_31 : decode cX3_runToBreakpoint 31 = .ok (.iinc 2 1, 3) := by decide +kernel
theorem dX3_runToBreakpoint_34 : decode cX3_runToBreakpoint 34 = .ok (.goto (-32), 3) := by decide +kernel
theorem dX3_runToBreakpoint_37 : decode cX3_runToBreakpoint 37 = .ok (.iload_n 1, 1) := by decide +kernel
theorem dX3_runToBreakpoint_38 : decode cX3_runToBreakpoint 38 = .ok (.ireturn, 1) := by decide +kernel
set_option maxRecDepth 20000 in
theorem ggX3_runToEnd_X3_areAllHalted : GoodIn wsX3_runToEnd wsX3_areAllHalted := goodIn_r _ [6, 7, 117, 118, 119, 120, 121, 122, 123, 124, 125, 126, 127, 128, 129, 130, 131, 132, 133, 134, 135, 136] (by decide +kernel) (by decide +kernel)
set_option maxRecDepth 20000 in
theorem gX3_runToEnd_X3_areAllHalted : GoodIn wsX3_runToEnd (wsV RX3 69 RX3 yX3_areAllHalted wsX3_areAllHalted) := goodIn_app (goodIn_of _ (by decide +kernel)) ggX3_runToEnd_X3_areAllHalted
set_option maxRecDepth 20000 in
theorem ggX3_runToEnd_X3_runCycle : GoodIn wsX3_runToEnd wsX3_runCycle := goodIn_r _ [11, 7, 12, 13, 14, 15, 16, 5, 17, 18, 19, 20, 21, 22, 23, 24, 25, 26, 27, 28, 29, 30, 31, 32, 33, 34, 35, 36, 37, 38, 1, 39, 40, 41, 42, 43, 44, 45, 46, 47, 48, 49, 50, 51, 52, 53, 54, 55, 56, 57, 58, 59, 60, 61, 62, 63, 64, 65, 66, 67, 68, 69, 70, 71, 72, 73, 74, 75, 76, 77, 78, 79, 80, 81, 82, 83, 84, 85, 86, 87, 88, 89, 90, 91, 92, 93, 94, 95, 96, 97, 98, 99, 100, 101, 102, 103, 104, 105, 106, 107, 108, 109, 110, 111, 112, 113, 114, 115, 116, 117, 118, 119, 120, 121, 122, 123, 124, 125, 126, 127, 128, 129, 130, 131, 132, 133, 134, 135, 136, 137, 138, 139, 140, 141] (by decide +kernel) (by decide +kernel)
set_option maxRecDepth 20000 in
theorem gX3_runToEnd_X3_runCycle : GoodIn wsX3_runToEnd (wsV RX3 76 RX3 yX3_runCycle wsX3_runCycle) := goodIn_app (goodIn_of _ (by decide +kernel)) ggX3_runToEnd_X3_runCycle
theorem dX3_runToEnd_0 : decode cX3_runToEnd 0 = .ok (.iconst 0, 1) := by decide +kernel
theorem dX3_runToEnd_1 : decode cX3_runToEnd 1 = .ok (.istore_n 1, 1) := by decide +kernel
theorem dX3_runToEnd_2 : decode cX3_runToEnd 2 = .ok (.iload_n 1, 1) := by decide +kernel
theorem dX3_runToEnd_3 : decode cX3_runToEnd 3 = .ok (.sipush 500, 3) := by decide +kernel
theorem dX3_runToEnd_6 : decode cX3_runToEnd 6 = .ok (.if_icmp .ge 22, 3) := by decide +kernel
theorem dX3_runToEnd_9 : decode cX3_runToEnd 9 = .ok (.aload_n 0, 1) := by decide +kernel
theorem dX3_runToEnd_10 : decode cX3_runToEnd 10 = .ok (.invokevirtual 69, 3) := by decide +kernel
theorem dX3_runToEnd_13 : decode cX3_runToEnd 13 = .ok (.ifCond .eq 5, 3) := by decide +kernel
theorem dX3_runToEnd_16 : decode cX3_runToEnd 16 = .ok (.iload_n 1, 1) := by decide +kernel
theorem dX3_runToEnd_17 : decode cX3_runToEnd 17 = .ok (.ireturn, 1) := by decide +kernel
theorem dX3_runToEnd_18 : decode cX3_runToEnd 18 = .ok (.aload_n 0, 1) := by decide +kernel
theorem dX3_runToEnd_19 : decode cX3_runToEnd 19 = .ok (.invokevirtual 76, 3) := by decide +kernel
theorem dX3_runToEnd_22 : decode cX3_runToEnd 22 = .ok (.iinc 1 1, 3) := by decide +kernel
theorem dX3_runToEnd_25 : decode cX3_runToEnd 25 = .ok (.goto (-23), 3) := by decide +kernel
theorem dX3_runToEnd_28 : decode cX3_runToEnd 28 = .ok (.aload_n 0, 1) := by decide +kernel
theorem dX3_runToEnd_29 : decode cX3_runToEnd 29 = .ok (.invokevirtual 69, 3) := by decide +kernel
theorem dX3_runToEnd_32 : decode cX3_runToEnd 32 = .ok (.ifCond .eq 9, 3) := by decide +kernel
theorem dX3_runToEnd_35 : decode cX3_runToEnd 35 = .ok (.sipush 500, 3) := by decide +kernel
theorem dX3_runToEnd_38 : decode cX3_runToEnd 38 = .ok (.goto 5, 3) := by decide +kernel
theorem dX3_runToEnd_41 : decode cX3_runToEnd 41 = .ok (.ldc 79, 2) := by decide +kernel
theorem dX3_runToEnd_43 : decode cX3_runToEnd 43 = .ok (.ireturn, 1) := by decide +kernel
set_option maxRecDepth 20000 in
theorem ggX3_findIssuer_X3_findReady : GoodIn wsX3_findIssuer wsX3_findReady := goodIn_r _ [7, 8, 9, 10, 11, 12, 6, 13, 14, 15, 16, 17, 18, 19, 20, 36, 37, 38, 39, 40, 41, 42, 43, 44, 45, 46, 47, 48, 49, 50, 51, 52, 53, 54, 55] (by decide +kernel) (by decide +kernel)
set_option maxRecDepth 20000 in
theorem gX3_findIssuer_X3_findReady : GoodIn wsX3_findIssuer (wsV RX3 80 RX3 yX3_findReady wsX3_findReady) := goodIn_app (goodIn_of _ (by decide +kernel)) ggX3_findIssuer_X3_findReady
set_option maxRecDepth 20000 in
theorem ggX3_findIssuer_X3_slotOwner : GoodIn wsX3_findIssuer wsX3_slotOwner := goodIn_r _ [24, 25, 9, 36, 37, 38, 39, 40, 41, 42, 43, 44] (by decide +kernel) (by decide +kernel)
set_option maxRecDepth 20000 in
theorem gX3_findIssuer_X3_slotOwner : GoodIn wsX3_findIssuer (wsV RX3 84 RX3 yX3_slotOwner wsX3_slotOwner) := goodIn_app (goodIn_of _ (by decide +kernel)) ggX3_findIssuer_X3_slotOwner
set_option maxRecDepth 20000 in
theorem ggX3_findIssuer_X3_isIn : GoodIn wsX3_findIssuer wsX3_isIn := goodIn_r _ [28] (by decide +kernel) (by decide +kernel)
set_option maxRecDepth 20000 in
theorem gX3_findIssuer_X3_isIn : GoodIn wsX3_findIssuer (va_wsS RX3 87 yX3_isIn wsX3_isIn) := goodIn_app (goodIn_of _ (by decide +kernel)) ggX3_findIssuer_X3_isIn
set_option maxRecDepth 20000 in
theorem ggX3_findIssuer_X3_findNextAfter : GoodIn wsX3_findIssuer wsX3_findNextAfter := goodIn_r _ [31, 2, 26, 27, 6, 28] (by decide +kernel) (by decide +kernel)
set_option maxRecDepth 20000 in
theorem gX3_findIssuer_X3_findNextAfter : GoodIn wsX3_findIssuer (va_wsS RX3 91 yX3_findNextAfter wsX3_findNextAfter) := goodIn_app (goodIn_of _ (by decide +kernel)) ggX3_findIssuer_X3_findNextAfter
set_option maxRecDepth 20000 in
theorem ggX3_findIssuer_X3_findLongestWaiting : GoodIn wsX3_findIssuer wsX3_findLongestWaiting := goodIn_r _ [35, 2, 8, 26, 27, 6, 28, 36, 37, 38, 39, 40, 41, 42, 43, 44, 45, 46, 47, 48, 49, 50, 51, 52, 53, 54, 55] (by decide +kernel) (by decide +kernel)
set_option maxRecDepth 20000 in
theorem gX3_findIssuer_X3_findLongestWaiting : GoodIn wsX3_findIssuer (wsV RX3 95 RX3 yX3_findLongestWaiting wsX3_findLongestWaiting) := goodIn_app (goodIn_of _ (by decide +kernel)) ggX3_findIssuer_X3_findLongestWaiting
theorem dX3_findIssuer_0 : decode cX3_findIssuer 0 = .ok (.aload_n 0, 1) := by decide +kernel
theorem dX3_findIssuer_1 : decode cX3_findIssuer 1 = .ok (.invokevirtual 80, 3) := by decide +kernel
theorem dX3_findIssuer_4 : decode cX3_findIssuer 4 = .ok (.istore_n 1, 1) := by decide +kernel
theorem dX3_findIssuer_5 : decode cX3_findIssuer 5 = .ok (.aload_n 0, 1) := by decide +kernel
theorem dX3_findIssuer_6 : decode cX3_findIssuer 6 = .ok (.invokevirtual 84, 3) := by decide +kernel
theorem dX3_findIssuer_9 : decode cX3_findIssuer 9 = .ok (.istore_n 2, 1) := by decide +kernel
theorem dX3_findIssuer_10 : decode cX3_findIssuer 10 = .ok (.iload_n 1, 1) := by decide +kernel
theorem dX3_findIssuer_11 : decode cX3_findIssuer 11 = .ok (.iload_n 2, 1) := by decide +kernel
theorem dX3_findIssuer_12 : decode cX3_findIssuer 12 = .ok (.invokestatic 87, 3) := by decide +kernel
theorem dX3_findIssuer_15 : decode cX3_findIssuer 15 = .ok (.ifCond .eq 5, 3) := by decide +kernel
theorem dX3_findIssuer_18 : decode cX3_findIssuer 18 = .ok (.iload_n 2, 1) := by decide +kernel
theorem dX3_findIssuer_19 : decode cX3_findIssuer 19 = .ok (.ireturn, 1) := by decide +kernel
theorem dX3_findIssuer_20 : decode cX3_findIssuer 20 = .ok (.aload_n 0, 1) := by decide +kernel
theorem dX3_findIssuer_21 : decode cX3_findIssuer 21 = .ok (.getfield 34, 3) := by decide +kernel
theorem dX3_findIssuer_24 : decode cX3_findIssuer 24 = .ok (.iconst 1, 1) := by decide +kernel
theorem dX3_findIssuer_25 : decode cX3_findIssuer 25 = .ok (.iaload, 1) := by decide +kernel
theorem dX3_findIssuer_26 : decode cX3_findIssuer 26 = .ok (.iconst 1, 1) := by decide +kernel
theorem dX3_findIssuer_27 : decode cX3_findIssuer 27 = .ok (.if_icmp .ne 9, 3) := by decide +kernel
theorem dX3_findIssuer_30 : decode cX3_findIssuer 30 = .ok (.iload_n 2, 1) := by decide +kernel
theorem dX3_findIssuer_31 : decode cX3_findIssuer 31 = .ok (.iload_n 1, 1) := by decide +kernel
theorem dX3_findIssuer_32 : decode cX3_findIssuer 32 = .ok (.invokestatic 91, 3) := by decide +kernel
theorem dX3_findIssuer_35 : decode cX3_findIssuer 35 = .ok (.ireturn, 1) := by decide +kernel
theorem dX3_findIssuer_36 : decode cX3_findIssuer 36 = .ok (.aload_n 0, 1) := by decide +kernel
theorem dX3_findIssuer_37 : decode cX3_findIssuer 37 = .ok (.getfield 34, 3) := by decide +kernel
theorem dX3_findIssuer_40 : decode cX3_findIssuer 40 = .ok (.iconst 1, 1) := by decide +kernel
theorem dX3_findIssuer_41 : decode cX3_findIssuer 41 = .ok (.iaload, 1) := by decide +kernel
theorem dX3_findIssuer_42 : decode cX3_findIssuer 42 = .ok (.iconst 2, 1) := by decide +kernel
theorem dX3_findIssuer_43 : decode cX3_findIssuer 43 = .ok (.if_icmp .ne 9, 3) := by decide +kernel
theorem dX3_findIssuer_46 : decode cX3_findIssuer 46 = .ok (.aload_n 0, 1) := by decide +kernel
theorem dX3_findIssuer_47 : decode cX3_findIssuer 47 = .ok (.iload_n 1, 1) := by decide +kernel
theorem dX3_findIssuer_48 : decode cX3_findIssuer 48 = .ok (.invokevirtual 95, 3) := by decide +kernel
theorem dX3_findIssuer_51 : decode cX3_findIssuer 51 = .ok (.ireturn, 1) := by decide +kernel
theorem dX3_findIssuer_52 : decode cX3_findIssuer 52 = .ok (.ldc 79, 2) := by decide +kernel
theorem dX3_findIssuer_54 : decode cX3_findIssuer 54 = .ok (.ireturn, 1) := by decide +kernel
theorem dX3_slotOwner_0 : decode cX3_slotOwner 0 = .ok (.aload_n 0, 1) := by decide +kernel
theorem dX3_slotOwner_1 : decode cX3_slotOwner 1 = .ok (.getfield 31, 3) := by decide +kernel
theorem dX3_slotOwner_4 : decode cX3_slotOwner 4 = .ok (.aload_n 0, 1) := by decide +kernel
theorem dX3_slotOwner_5 : decode cX3_slotOwner 5 = .ok (.getfield 62, 3) := by decide +kernel
theorem dX3_slotOwner_8 : decode cX3_slotOwner 8 = .ok (.bipush 7, 2) := by decide +kernel
theorem dX3_slotOwner_10 : decode cX3_slotOwner 10 = .ok (.iand, 1) := by decide +kernel
theorem dX3_slotOwner_11 : decode cX3_slotOwner 11 = .ok (.iaload, 1) := by decide +kernel
theorem dX3_slotOwner_12 : decode cX3_slotOwner 12 = .ok (.ireturn, 1) := by decide +kernel
set_option maxRecDepth 20000 in
theorem ggX3_findReady_X3_doesBarrierOpen : GoodIn wsX3_findReady wsX3_doesBarrierOpen := goodIn_r _ [7, 1, 15, 16, 17, 18, 19, 20, 21, 22, 23, 24, 25, 26, 27, 28, 29, 30, 31, 32, 33, 34] (by decide +kernel) (by decide +kernel)
set_option maxRecDepth 20000 in
theorem gX3_findReady_X3_doesBarrierOpen : GoodIn wsX3_findReady (wsV RX3 99 RX3 yX3_doesBarrierOpen wsX3_doesBarrierOpen) := goodIn_app (goodIn_of _ (by decide +kernel)) ggX3_findReady_X3_doesBarrierOpen
set_option maxRecDepth 20000 in
theorem ggX3_findReady_X0_hasLoadDue : GoodIn wsX3_findReady wsX0_hasLoadDue := goodIn_r _ [12, 13, 14, 24, 25, 26, 27, 28, 29, 30, 31, 32, 33, 34] (by decide +kernel) (by decide +kernel)
set_option maxRecDepth 20000 in
theorem gX3_findReady_X0_hasLoadDue : GoodIn wsX3_findReady (wsV RX3 105 RX0 yX0_hasLoadDue wsX0_hasLoadDue) := goodIn_app (goodIn_of _ (by decide +kernel)) ggX3_findReady_X0_hasLoadDue
theorem dX3_findReady_0 : decode cX3_findReady 0 = .ok (.aload_n 0, 1) := by decide +kernel
theorem dX3_findReady_1 : decode cX3_findReady 1 = .ok (.invokevirtual 99, 3) := by decide +kernel
theorem dX3_findReady_4 : decode cX3_findReady 4 = .ok (.istore_n 1, 1) := by decide +kernel
theorem dX3_findReady_5 : decode cX3_findReady 5 = .ok (.iconst 0, 1) := by decide +kernel
theorem dX3_findReady_6 : decode cX3_findReady 6 = .ok (.istore_n 2, 1) := by decide +kernel
theorem dX3_findReady_7 : decode cX3_findReady 7 = .ok (.iconst 0, 1) := by decide +kernel
theorem dX3_findReady_8 : decode cX3_findReady 8 = .ok (.istore_n 3, 1) := by decide +kernel
theorem dX3_findReady_9 : decode cX3_findReady 9 = .ok (.iload_n 3, 1) := by decide +kernel
theorem dX3_findReady_10 : decode cX3_findReady 10 = .ok (.iconst 4, 1) := by decide +kernel
theorem dX3_findReady_11 : decode cX3_findReady 11 = .ok (.if_icmp .ge 57, 3) := by decide +kernel
theorem dX3_findReady_14 : decode cX3_findReady 14 = .ok (.aload_n 0, 1) := by decide +kernel
theorem dX3_findReady_15 : decode cX3_findReady 15 = .ok (.getfield 11, 3) := by decide +kernel
theorem dX3_findReady_18 : decode cX3_findReady 18 = .ok (.iload_n 3, 1) := by decide +kernel
theorem dX3_findReady_19 : decode cX3_findReady 19 = .ok (.aaload, 1) := by decide +kernel
theorem dX3_findReady_20 : decode cX3_findReady 20 = .ok (.astore 4, 2) := by decide +kernel
theorem dX3_findReady_22 : decode cX3_findReady 22 = .ok (.aload 4, 2) := by decide +kernel
theorem dX3_findReady_24 : decode cX3_findReady 24 = .ok (.getfield 102, 3) := by decide +kernel
theorem dX3_findReady_27 : decode cX3_findReady 27 = .ok (.iconst 1, 1) := by decide +kernel
theorem dX3_findReady_28 : decode cX3_findReady 28 = .ok (.if_icmp .eq 28, 3) := by decide +kernel
theorem dX3_findReady_31 : decode cX3_findReady 31 = .ok (.aload 4, 2) := by decide +kernel
theorem dX3_findReady_33 : decode cX3_findReady 33 = .ok (.getfield 102, 3) := by decide +kernel
theorem dX3_findReady_36 : decode cX3_findReady 36 = .ok (.iconst 3, 1) := by decide +kernel
theorem dX3_findReady_37 : decode cX3_findReady 37 = .ok (.if_icmp .ne 7, 3) := by decide +kernel
theorem dX3_findReady_40 : decode cX3_findReady 40 = .ok (.iload_n 1, 1) := by decide +kernel
theorem dX3_findReady_41 : decode cX3_findReady 41 = .ok (.ifCond .ne 15, 3) := by decide +kernel
theorem dX3_findReady_44 : decode cX3_findReady 44 = .ok (.aload 4, 2) := by decide +kernel
theorem dX3_findReady_46 : decode cX3_findReady 46 = .ok (.aload_n 0, 1) := by decide +kernel
theorem dX3_findReady_47 : decode cX3_findReady 47 = .ok (.getfield 62, 3) := by decide +kernel
theorem dX3_findReady_50 : decode cX3_findReady 50 = .ok (.invokevirtual 105, 3) := by decide +kernel
theorem dX3_findReady_53 : decode cX3_findReady 53 = .ok (.ifCond .eq 9, 3) := by decide +kernel
theorem dX3_findReady_56 : decode cX3_findReady 56 = .ok (.iload_n 2, 1) := by decide +kernel
theorem dX3_findReady_57 : decode cX3_findReady 57 = .ok (.iconst 1, 1) := by decide +kernel
theorem dX3_findReady_58 : decode cX3_findReady 58 = .ok (.iload_n 3, 1) := by decide +kernel
theorem dX3_findReady_59 : decode cX3_findReady 59 = .ok (.ishl, 1) := by decide +kernel
theorem dX3_findReady_60 : decode cX3_findReady 60 = .ok (.ior, 1) := by decide +kernel
theorem dX3_findReady_61 : decode cX3_findReady 61 = .ok (.istore_n 2, 1) := by decide +kernel
theorem dX3_findReady_62 : decode cX3_findReady 62 = .ok (.iinc 3 1, 3) := by decide +kernel
theorem dX3_findReady_65 : decode cX3_findReady 65 = .ok (.goto (-56), 3) := by decide +kernel
theorem dX3_findReady_68 : decode cX3_findReady 68 = .ok (.iload_n 2, 1) := by decide +kernel
theorem dX3_findReady_69 : decode cX3_findReady 69 = .ok (.ireturn, 1) := by decide +kernel
theorem dX3_isIn_0 : decode cX3_isIn 0 = .ok (.iload_n 0, 1) := by decide +kernel
theorem dX3_isIn_1 : decode cX3_isIn 1 = .ok (.iconst 1, 1) := by decide +kernel
theorem dX3_isIn_2 : decode cX3_isIn 2 = .ok (.iload_n 1, 1) := by decide +kernel
theorem dX3_isIn_3 : decode cX3_isIn 3 = .ok (.ishl, 1) := by decide +kernel
theorem dX3_isIn_4 : decode cX3_isIn 4 = .ok (.iand, 1) := by decide +kernel
theorem dX3_isIn_5 : decode cX3_isIn 5 = .ok (.ifCond .eq 7, 3) := by decide +kernel
theorem dX3_isIn_8 : decode cX3_isIn 8 = .ok (.iconst 1, 1) := by decide +kernel
theorem dX3_isIn_9 : decode cX3_isIn 9 = .ok (.goto 4, 3) := by decide +kernel
theorem dX3_isIn_12 : decode cX3_isIn 12 = .ok (.iconst 0, 1) := by decide +kernel
theorem dX3_isIn_13 : decode cX3_isIn 13 = .ok (.ireturn, 1) := by decide +kernel
set_option maxRecDepth 20000 in
theorem ggX3_findNextAfter_X3_isIn : GoodIn wsX3_findNextAfter wsX3_isIn := goodIn_r _ [5] (by decide +kernel) (by decide +kernel)
set_option maxRecDepth 20000 in
theorem gX3_findNextAfter_X3_isIn : GoodIn wsX3_findNextAfter (va_wsS RX3 87 yX3_isIn wsX3_isIn) := goodIn_app (goodIn_of _ (by decide +kernel)) ggX3_findNextAfter_X3_isIn
theorem dX3_findNextAfter_0 : decode cX3_findNextAfter 0 = .ok (.iconst 1, 1) := by decide +kernel
theorem dX3_findNextAfter_1 : decode cX3_findNextAfter 1 = .ok (.istore_n 2, 1) := by decide +kernel
theorem dX3_findNextAfter_2 : decode cX3_findNextAfter 2 = .ok (.iload_n 2, 1) := by decide +kernel
theorem dX3_findNextAfter_3 : decode cX3_findNextAfter 3 = .ok (.iconst 4, 1) := by decide +kernel
theorem dX3_findNextAfter_4 : decode cX3_findNextAfter 4 = .ok (.if_icmp .ge 25, 3) := by decide +kernel
theorem dX3_findNextAfter_7 : decode cX3_findNextAfter 7 = .ok (.iload_n 0, 1) := by decide +kernel
theorem dX3_findNextAfter_8 : decode cX3_findNextAfter 8 = .ok (.iload_n 2, 1) := by decide +kernel
theorem dX3_findNextAfter_9 : decode cX3_findNextAfter 9 = .ok (.iadd, 1) := by decide +kernel
theorem dX3_findNextAfter_10 : decode cX3_findNextAfter 10 = .ok (.iconst 4, 1) := by decide +kernel
theorem dX3_findNextAfter_11 : decode cX3_findNextAfter 11 = .ok (.irem, 1) := by decide +kernel
theorem dX3_findNextAfter_12 : decode cX3_findNextAfter 12 = .ok (.istore_n 3, 1) := by decide +kernel
theorem dX3_findNextAfter_13 : decode cX3_findNextAfter 13 = .ok (.iload_n 1, 1) := by decide +kernel
theorem dX3_findNextAfter_14 : decode cX3_findNextAfter 14 = .ok (.iload_n 3, 1) := by decide +kernel
theorem dX3_findNextAfter_15 : decode cX3_findNextAfter 15 = .ok (.invokestatic 87, 3) := by decide +kernel
theorem dX3_findNextAfter_18 : decode cX3_findNextAfter 18 = .ok (.ifCond .eq 5, 3) := by decide +kernel
theorem dX3_findNextAfter_21 : decode cX3_findNextAfter 21 = .ok (.iload_n 3, 1) := by decide +kernel
theorem dX3_findNextAfter_22 : decode cX3_findNextAfter 22 = .ok (.ireturn, 1) := by decide +kernel
theorem dX3_findNextAfter_23 : decode cX3_findNextAfter 23 = .ok (.iinc 2 1, 3) := by decide +kernel
theorem dX3_findNextAfter_26 : decode cX3_findNextAfter 26 = .ok (.goto (-24), 3) := by decide +kernel
theorem dX3_findNextAfter_29 : decode cX3_findNextAfter 29 = .ok (.ldc 79, 2) := by decide +kernel
theorem dX3_findNextAfter_31 : decode cX3_findNextAfter 31 = .ok (.ireturn, 1) := by decide +kernel
set_option maxRecDepth 20000 in
theorem ggX3_findLongestWaiting_X3_isIn : GoodIn wsX3_findLongestWaiting wsX3_isIn := goodIn_r _ [6] (by decide +kernel) (by decide +kernel)
set_option maxRecDepth 20000 in
theorem gX3_findLongestWaiting_X3_isIn : GoodIn wsX3_findLongestWaiting (va_wsS RX3 87 yX3_isIn wsX3_isIn) := goodIn_app (goodIn_of _ (by decide +kernel)) ggX3_findLongestWaiting_X3_isIn
theorem dX3_findLongestWaiting_0 : decode cX3_findLongestWaiting 0 = .ok (.ldc 79, 2) := by decide +kernel
theorem dX3_findLongestWaiting_2 : decode cX3_findLongestWaiting 2 = .ok (.istore_n 2, 1) := by decide +kernel
theorem dX3_findLongestWaiting_3 : decode cX3_findLongestWaiting 3 = .ok (.iconst 0, 1) := by decide +kernel
theorem dX3_findLongestWaiting_4 : decode cX3_findLongestWaiting 4 = .ok (.istore_n 3, 1) := by decide +kernel
theorem dX3_findLongestWaiting_5 : decode cX3_findLongestWaiting 5 = .ok (.iconst 0, 1) := by decide +kernel
theorem dX3_findLongestWaiting_6 : decode cX3_findLongestWaiting 6 = .ok (.istore 4, 2) := by decide +kernel
theorem dX3_findLongestWaiting_8 : decode cX3_findLongestWaiting 8 = .ok (.iload 4, 2) := by decide +kernel
theorem dX3_findLongestWaiting_10 : decode cX3_findLongestWaiting 10 = .ok (.iconst 4, 1) := by decide +kernel
theorem dX3_findLongestWaiting_11 : decode cX3_findLongestWaiting 11 = .ok (.if_icmp .ge 48, 3) := by decide +kernel
theorem dX3_findLongestWaiting_14 : decode cX3_findLongestWaiting 14 = .ok (.aload_n 0, 1) := by decide +kernel
theorem dX3_findLongestWaiting_15 : decode cX3_findLongestWaiting 15 = .ok (.getfield 11, 3) := by decide +kernel
theorem dX3_findLongestWaiting_18 : decode cX3_findLongestWaiting 18 = .ok (.iload 4, 2) := by decide +kernel
theorem dX3_findLongestWaiting_20 : decode cX3_findLongestWaiting 20 = .ok (.aaload, 1) := by decide +kernel
theorem dX3_findLongestWaiting_21 : decode cX3_findLongestWaiting 21 = .ok (.getfield 109, 3) := by decide +kernel
theorem dX3_findLongestWaiting_24 : decode cX3_findLongestWaiting 24 = .ok (.istore 5, 2) := by decide +kernel
theorem dX3_findLongestWaiting_26 : decode cX3_findLongestWaiting 26 = .ok (.iload_n 1, 1) := by decide +kernel
theorem dX3_findLongestWaiting_27 : decode cX3_findLongestWaiting 27 = .ok (.iload 4, 2) := by decide +kernel
theorem dX3_findLongestWaiting_29 : decode cX3_findLongestWaiting 29 = .ok (.invokestatic 87, 3) := by decide +kernel
theorem dX3_findLongestWaiting_32 : decode cX3_findLongestWaiting 32 = .ok (.ifCond .eq 21, 3) := by decide +kernel
theorem dX3_findLongestWaiting_35 : decode cX3_findLongestWaiting 35 = .ok (.iload_n 2, 1) := by decide +kernel
theorem dX3_findLongestWaiting_36 : decode cX3_findLongestWaiting 36 = .ok (.ldc 79, 2) := by decide +kernel
theorem dX3_findLongestWaiting_38 : decode cX3_findLongestWaiting 38 = .ok (.if_icmp .eq 9, 3) := by decide +kernel
theorem dX3_findLongestWaiting_41 : decode cX3_findLongestWaiting 41 = .ok (.iload 5, 2) := by decide +kernel
theorem dX3_findLongestWaiting_43 : decode cX3_findLongestWaiting 43 = .ok (.iload_n 3, 1) := by decide +kernel
theorem dX3_findLongestWaiting_44 : decode cX3_findLongestWaiting 44 = .ok (.if_icmp .ge 9, 3) := by decide +kernel
theorem dX3_findLongestWaiting_47 : decode cX3_findLongestWaiting 47 = .ok (.iload 4, 2) := by decide +kernel
theorem dX3_findLongestWaiting_49 : decode cX3_findLongestWaiting 49 = .ok (.istore_n 2, 1) := by decide +kernel
theorem dX3_findLongestWaiting_50 : decode cX3_findLongestWaiting 50 = .ok (.iload 5, 2) := by decide +kernel
theorem dX3_findLongestWaiting_52 : decode cX3_findLongestWaiting 52 = .ok (.istore_n 3, 1) := by decide +kernel
theorem dX3_findLongestWaiting_53 : decode cX3_findLongestWaiting 53 = .ok (.iinc 4 1, 3) := by decide +kernel
theorem dX3_findLongestWaiting_56 : decode cX3_findLongestWaiting 56 = .ok (.goto (-48), 3) := by decide +kernel
theorem dX3_findLongestWaiting_59 : decode cX3_findLongestWaiting 59 = .ok (.iload_n 2, 1) := by decide +kernel
theorem dX3_findLongestWaiting_60 : decode cX3_findLongestWaiting 60 = .ok (.ireturn, 1) := by decide +kernel
theorem dX3_areAllHalted_0 : decode cX3_areAllHalted 0 = .ok (.iconst 0, 1) := by decide +kernel
theorem dX3_areAllHalted_1 : decode cX3_areAllHalted 1 = .ok (.istore_n 1, 1) := by decide +kernel
theorem dX3_areAllHalted_2 : decode cX3_areAllHalted 2 = .ok (.iload_n 1, 1) := by decide +kernel
theorem dX3_areAllHalted_3 : decode cX3_areAllHalted 3 = .ok (.iconst 4, 1) := by decide +kernel
theorem dX3_areAllHalted_4 : decode cX3_areAllHalted 4 = .ok (.if_icmp .ge 23, 3) := by decide +kernel
theorem dX3_areAllHalted_7 : decode cX3_areAllHalted 7 = .ok (.aload_n 0, 1) := by decide +kernel
theorem dX3_areAllHalted_8 : decode cX3_areAllHalted 8 = .ok (.getfield 11, 3) := by decide +kernel
theorem dX3_areAllHalted_11 : decode cX3_areAllHalted 11 = .ok (.iload_n 1, 1) := by decide +kernel
theorem dX3_areAllHalted_12 : decode cX3_areAllHalted 12 = .ok (.aaload, 1) := by decide +kernel
theorem dX3_areAllHalted_13 : decode cX3_areAllHalted 13 = .ok (.getfield 102, 3) := by decide +kernel
theorem dX3_areAllHalted_16 : decode cX3_areAllHalted 16 = .ok (.ifCond .eq 5, 3) := by decide +kernel
theorem dX3_areAllHalted_19 : decode cX3_areAllHalted 19 = .ok (.iconst 0, 1) := by decide +kernel
theorem dX3_areAllHalted_20 : decode cX3_areAllHalted 20 = .ok (.ireturn, 1) := by decide +kernel
theorem dX3_areAllHalted_21 : decode cX3_areAllHalted 21 = .ok (.iinc 1 1, 3) := by decide +kernel
theorem dX3_areAllHalted_24 : decode cX3_areAllHalted 24 = .ok (.goto (-22), 3) := by decide +kernel
theorem dX3_areAllHalted_27 : decode cX3_areAllHalted 27 = .ok (.iconst 1, 1) := by decide +kernel
theorem dX3_areAllHalted_28 : decode cX3_areAllHalted 28 = .ok (.ireturn, 1) := by decide +kernel
set_option maxRecDepth 20000 in
theorem ggX3_isAtBreakpoint_X3_findIssuer : GoodIn wsX3_isAtBreakpoint wsX3_findIssuer := goodIn_r _ [7, 8, 9, 10, 11, 12, 6, 13, 1, 14, 15, 16, 17, 18, 19, 20, 21, 22, 23, 24, 25, 26, 27, 28, 29, 30, 31, 32, 33, 34, 35, 36, 37, 38, 39, 40, 49, 50, 51, 52, 53, 54, 55, 56, 57, 58, 59, 60, 61, 62, 63, 64, 65, 66, 67, 68] (by decide +kernel) (by decide +kernel)
set_option maxRecDepth 20000 in
theorem gX3_isAtBreakpoint_X3_findIssuer : GoodIn wsX3_isAtBreakpoint (wsV RX3 112 RX3 yX3_findIssuer wsX3_findIssuer) := goodIn_app (goodIn_of _ (by decide +kernel)) ggX3_isAtBreakpoint_X3_findIssuer
set_option maxRecDepth 20000 in
theorem ggX3_isAtBreakpoint_X6_isThread : GoodIn wsX3_isAtBreakpoint wsX6_isThread := goodIn_r _ [43, 44, 45, 42, 46] (by decide +kernel) (by decide +kernel)
set_option maxRecDepth 20000 in
theorem gX3_isAtBreakpoint_X6_isThread_n115 : GoodIn wsX3_isAtBreakpoint (wsX6_isThread) := ggX3_isAtBreakpoint_X6_isThread
set_option maxRecDepth 20000 in
theorem ggX3_isAtBreakpoint_X6_isPlace : GoodIn wsX3_isAtBreakpoint wsX6_isPlace := goodIn_r _ [48, 44, 45, 42, 46] (by decide +kernel) (by decide +kernel)
set_option maxRecDepth 20000 in
theorem gX3_isAtBreakpoint_X6_isPlace_n121 : GoodIn wsX3_isAtBreakpoint (wsX6_isPlace) := ggX3_isAtBreakpoint_X6_isPlace
theorem dX3_isAtBreakpoint_0 : decode cX3_isAtBreakpoint 0 = .ok (.aload_n 0, 1) := by decide +kernel
theorem dX3_isAtBreakpoint_1 : decode cX3_isAtBreakpoint 1 = .ok (.invokevirtual 112, 3) := by decide +kernel
theorem dX3_isAtBreakpoint_4 : decode cX3_isAtBreakpoint 4 = .ok (.istore_n 1, 1) := by decide +kernel
theorem dX3_isAtBreakpoint_5 : decode cX3_isAtBreakpoint 5 = .ok (.iload_n 1, 1) := by decide +kernel
theorem dX3_isAtBreakpoint_6 : decode cX3_isAtBreakpoint 6 = .ok (.invokestatic 115, 3) := by decide +kernel
theorem dX3_isAtBreakpoint_9 : decode cX3_isAtBreakpoint 9 = .ok (.ifCond .ne 5, 3) := by decide +kernel
theorem dX3_isAtBreakpoint_12 : decode cX3_isAtBreakpoint 12 = .ok (.iconst 0, 1) := by decide +kernel
theorem dX3_isAtBreakpoint_13 : decode cX3_isAtBreakpoint 13 = .ok (.ireturn, 1) := by decide +kernel
theorem dX3_isAtBreakpoint_14 : decode cX3_isAtBreakpoint 14 = .ok (.aload_n 0, 1) := by decide +kernel
theorem dX3_isAtBreakpoint_15 : decode cX3_isAtBreakpoint 15 = .ok (.getfield 11, 3) := by decide +kernel
theorem dX3_isAtBreakpoint_18 : decode cX3_isAtBreakpoint 18 = .ok (.iload_n 1, 1) := by decide +kernel
theorem dX3_isAtBreakpoint_19 : decode cX3_isAtBreakpoint 19 = .ok (.aaload, 1) := by decide +kernel
theorem dX3_isAtBreakpoint_20 : decode cX3_isAtBreakpoint 20 = .ok (.getfield 118, 3) := by decide +kernel
theorem dX3_isAtBreakpoint_23 : decode cX3_isAtBreakpoint 23 = .ok (.istore_n 2, 1) := by decide +kernel
theorem dX3_isAtBreakpoint_24 : decode cX3_isAtBreakpoint 24 = .ok (.iload_n 2, 1) := by decide +kernel
theorem dX3_isAtBreakpoint_25 : decode cX3_isAtBreakpoint 25 = .ok (.invokestatic 121, 3) := by decide +kernel
theorem dX3_isAtBreakpoint_28 : decode cX3_isAtBreakpoint 28 = .ok (.ifCond .eq 17, 3) := by decide +kernel
theorem dX3_isAtBreakpoint_31 : decode cX3_isAtBreakpoint 31 = .ok (.aload_n 0, 1) := by decide +kernel
theorem dX3_isAtBreakpoint_32 : decode cX3_isAtBreakpoint 32 = .ok (.getfield 24, 3) := by decide +kernel
theorem dX3_isAtBreakpoint_35 : decode cX3_isAtBreakpoint 35 = .ok (.iload_n 2, 1) := by decide +kernel
theorem dX3_isAtBreakpoint_36 : decode cX3_isAtBreakpoint 36 = .ok (.iaload, 1) := by decide +kernel
theorem dX3_isAtBreakpoint_37 : decode cX3_isAtBreakpoint 37 = .ok (.iconst 1, 1) := by decide +kernel
theorem dX3_isAtBreakpoint_38 : decode cX3_isAtBreakpoint 38 = .ok (.if_icmp .ne 7, 3) := by decide +kernel
theorem dX3_isAtBreakpoint_41 : decode cX3_isAtBreakpoint 41 = .ok (.iconst 1, 1) := by decide +kernel
theorem dX3_isAtBreakpoint_42 : decode cX3_isAtBreakpoint 42 = .ok (.goto 4, 3) := by decide +kernel
theorem dX3_isAtBreakpoint_45 : decode cX3_isAtBreakpoint 45 = .ok (.iconst 0, 1) := by decide +kernel
theorem dX3_isAtBreakpoint_46 : decode cX3_isAtBreakpoint 46 = .ok (.ireturn, 1) := by decide +kernel
set_option maxRecDepth 20000 in
theorem ggX3_runCycle_X3_finishLoads : GoodIn wsX3_runCycle wsX3_finishLoads := goodIn_r _ [8, 1, 3, 9, 10, 11, 12, 13, 14, 15, 16, 109, 110, 111, 112, 113, 114, 115, 116, 117, 118, 119, 120, 121, 122, 123, 124, 125, 126, 127, 128] (by decide +kernel) (by decide +kernel)
set_option maxRecDepth 20000 in
theorem gX3_runCycle_X3_finishLoads : GoodIn wsX3_runCycle (wsV RX3 124 RX3 yX3_finishLoads wsX3_finishLoads) := goodIn_app (goodIn_of _ (by decide +kernel)) ggX3_runCycle_X3_finishLoads
set_option maxRecDepth 20000 in
theorem ggX3_runCycle_X3_openBarrier : GoodIn wsX3_runCycle wsX3_openBarrier := goodIn_r _ [20, 1, 21, 22, 23, 7, 24, 109, 110, 111, 112, 113, 114, 115, 116, 117, 118, 119, 120, 121, 122, 123, 124, 125, 126, 127, 128] (by decide +kernel) (by decide +kernel)
set_option maxRecDepth 20000 in
theorem gX3_runCycle_X3_openBarrier : GoodIn wsX3_runCycle (wsV RX3 127 RX3 yX3_openBarrier wsX3_openBarrier) := goodIn_app (goodIn_of _ (by decide +kernel)) ggX3_runCycle_X3_openBarrier
set_option maxRecDepth 20000 in
theorem ggX3_runCycle_X3_findIssuer : GoodIn wsX3_runCycle wsX3_findIssuer := goodIn_r _ [28, 29, 30, 31, 32, 33, 7, 34, 1, 3, 21, 22, 23, 24, 10, 11, 12, 13, 14, 15, 16, 35, 36, 37, 38, 39, 40, 41, 42, 43, 44, 45, 46, 47, 48, 49, 109, 110, 111, 112, 113, 114, 115, 116, 117, 118, 119, 120, 121, 122, 123, 124, 125, 126, 127, 128] (by decide +kernel) (by decide +kernel)
set_option maxRecDepth 20000 in
theorem gX3_runCycle_X3_findIssuer : GoodIn wsX3_runCycle (wsV RX3 112 RX3 yX3_findIssuer wsX3_findIssuer) := goodIn_app (goodIn_of _ (by decide +kernel)) ggX3_runCycle_X3_findIssuer
set_option maxRecDepth 20000 in
theorem ggX3_runCycle_X3_countStarving : GoodIn wsX3_runCycle wsX3_countStarving := goodIn_r _ [53, 1, 54, 55, 56, 13, 57, 58, 59, 60, 61, 62, 63, 109, 110, 111, 112, 113, 114, 115, 116, 117, 118, 119, 120, 121, 122, 123, 124, 125, 126, 127, 128] (by decide +kernel) (by decide +kernel)
set_option maxRecDepth 20000 in
theorem gX3_runCycle_X3_countStarving : GoodIn wsX3_runCycle (wsV RX3 130 RX3 yX3_countStarving wsX3_countStarving) := goodIn_app (goodIn_of _ (by decide +kernel)) ggX3_runCycle_X3_countStarving
set_option maxRecDepth 20000 in
theorem ggX3_runCycle_X6_isThread : GoodIn wsX3_runCycle wsX6_isThread := goodIn_r _ [66, 67, 68, 65, 69] (by decide +kernel) (by decide +kernel)
set_option maxRecDepth 20000 in
theorem gX3_runCycle_X6_isThread_n115 : GoodIn wsX3_runCycle (wsX6_isThread) := ggX3_runCycle_X6_isThread
set_option maxRecDepth 20000 in
theorem ggX3_runCycle_X3_noteIssue : GoodIn wsX3_runCycle wsX3_noteIssue := goodIn_r _ [73, 1, 3, 74, 35, 36, 37, 7, 38, 39, 75, 76, 77, 78, 79, 80, 81, 82, 83, 84, 62, 85, 109, 110, 111, 112, 113, 114, 115, 116, 117, 118, 119, 120, 121, 122, 123, 124, 125, 126, 127, 128, 129, 130, 131] (by decide +kernel) (by decide +kernel)
set_option maxRecDepth 20000 in
theorem gX3_runCycle_X3_noteIssue : GoodIn wsX3_runCycle (wsV RX3 134 RX3 yX3_noteIssue wsX3_noteIssue) := goodIn_app (goodIn_of _ (by decide +kernel)) ggX3_runCycle_X3_noteIssue
set_option maxRecDepth 20000 in
theorem ggX3_runCycle_X3_executeNext : GoodIn wsX3_runCycle wsX3_executeNext := goodIn_r _ [89, 90, 91, 65, 92, 67, 68, 69, 93, 94, 7, 95, 96, 97, 98, 99, 3, 29, 9, 100, 101, 102, 13, 103, 15, 104, 105, 16, 106, 107, 108, 118, 119, 120, 121, 122, 123, 124, 125, 126, 127, 128, 109, 110, 111, 112, 113, 114, 115, 116, 117, 132, 133] (by decide +kernel) (by decide +kernel)
set_option maxRecDepth 20000 in
theorem gX3_runCycle_X3_executeNext : GoodIn wsX3_runCycle (wsV RX3 137 RX3 yX3_executeNext wsX3_executeNext) := goodIn_app (goodIn_of _ (by decide +kernel)) ggX3_runCycle_X3_executeNext
theorem dX3_runCycle_0 : decode cX3_runCycle 0 = .ok (.aload_n 0, 1) := by decide +kernel
theorem dX3_runCycle_1 : decode cX3_runCycle 1 = .ok (.invokevirtual 124, 3) := by decide +kernel
theorem dX3_runCycle_4 : decode cX3_runCycle 4 = .ok (.aload_n 0, 1) := by decide +kernel
theorem dX3_runCycle_5 : decode cX3_runCycle 5 = .ok (.invokevirtual 127, 3) := by decide +kernel
theorem dX3_runCycle_8 : decode cX3_runCycle 8 = .ok (.aload_n 0, 1) := by decide +kernel
theorem dX3_runCycle_9 : decode cX3_runCycle 9 = .ok (.invokevirtual 112, 3) := by decide +kernel
theorem dX3_runCycle_12 : decode cX3_runCycle 12 = .ok (.istore_n 1, 1) := by decide +kernel
theorem dX3_runCycle_13 : decode cX3_runCycle 13 = .ok (.aload_n 0, 1) := by decide +kernel
theorem dX3_runCycle_14 : decode cX3_runCycle 14 = .ok (.iload_n 1, 1) := by decide +kernel
theorem dX3_runCycle_15 : decode cX3_runCycle 15 = .ok (.invokevirtual 130, 3) := by decide +kernel
theorem dX3_runCycle_18 : decode cX3_runCycle 18 = .ok (.iload_n 1, 1) := by decide +kernel
theorem dX3_runCycle_19 : decode cX3_runCycle 19 = .ok (.invokestatic 115, 3) := by decide +kernel
theorem dX3_runCycle_22 : decode cX3_runCycle 22 = .ok (.ifCond .eq 21, 3) := by decide +kernel
theorem dX3_runCycle_25 : decode cX3_runCycle 25 = .ok (.aload_n 0, 1) := by decide +kernel
theorem dX3_runCycle_26 : decode cX3_runCycle 26 = .ok (.iload_n 1, 1) := by decide +kernel
theorem dX3_runCycle_27 : decode cX3_runCycle 27 = .ok (.invokevirtual 134, 3) := by decide +kernel
theorem dX3_runCycle_30 : decode cX3_runCycle 30 = .ok (.aload_n 0, 1) := by decide +kernel
theorem dX3_runCycle_31 : decode cX3_runCycle 31 = .ok (.aload_n 0, 1) := by decide +kernel
theorem dX3_runCycle_32 : decode cX3_runCycle 32 = .ok (.getfield 11, 3) := by decide +kernel
theorem dX3_runCycle_35 : decode cX3_runCycle 35 = .ok (.iload_n 1, 1) := by decide +kernel
theorem dX3_runCycle_36 : decode cX3_runCycle 36 = .ok (.aaload, 1) := by decide +kernel
theorem dX3_runCycle_37 : decode cX3_runCycle 37 = .ok (.invokevirtual 137, 3) := by decide +kernel
theorem dX3_runCycle_40 : decode cX3_runCycle 40 = .ok (.goto 13, 3) := by decide +kernel
theorem dX3_runCycle_43 : decode cX3_runCycle 43 = .ok (.aload_n 0, 1) := by decide +kernel
theorem dX3_runCycle_44 : decode cX3_runCycle 44 = .ok (.dup, 1) := by decide +kernel
theorem dX3_runCycle_45 : decode cX3_runCycle 45 = .ok (.getfield 66, 3) := by decide +kernel
theorem dX3_runCycle_48 : decode cX3_runCycle 48 = .ok (.iconst 1, 1) := by decide +kernel
theorem dX3_runCycle_49 : decode cX3_runCycle 49 = .ok (.iadd, 1) := by decide +kernel
theorem dX3_runCycle_50 : decode cX3_runCycle 50 = .ok (.putfield 66, 3) := by decide +kernel
theorem dX3_runCycle_53 : decode cX3_runCycle 53 = .ok (.aload_n 0, 1) := by decide +kernel
theorem dX3_runCycle_54 : decode cX3_runCycle 54 = .ok (.dup, 1) := by decide +kernel
theorem dX3_runCycle_55 : decode cX3_runCycle 55 = .ok (.getfield 62, 3) := by decide +kernel
theorem dX3_runCycle_58 : decode cX3_runCycle 58 = .ok (.iconst 1, 1) := by decide +kernel
theorem dX3_runCycle_59 : decode cX3_runCycle 59 = .ok (.iadd, 1) := by decide +kernel
theorem dX3_runCycle_60 : decode cX3_runCycle 60 = .ok (.putfield 62, 3) := by decide +kernel
theorem dX3_runCycle_63 : decode cX3_runCycle 63 = .ok (.return_, 1) := by decide +kernel
set_option maxRecDepth 20000 in
theorem ggX3_finishLoads_X0_hasLoadDue : GoodIn wsX3_finishLoads wsX0_hasLoadDue := goodIn_r _ [8, 9, 10, 20, 21, 22, 23, 24, 25, 26, 27, 28, 29, 30] (by decide +kernel) (by decide +kernel)
set_option maxRecDepth 20000 in
theorem gX3_finishLoads_X0_hasLoadDue : GoodIn wsX3_finishLoads (wsV RX3 105 RX0 yX0_hasLoadDue wsX0_hasLoadDue) := goodIn_app (goodIn_of _ (by decide +kernel)) ggX3_finishLoads_X0_hasLoadDue
theorem dX3_finishLoads_0 : decode cX3_finishLoads 0 = .ok (.iconst 0, 1) := by decide +kernel
theorem dX3_finishLoads_1 : decode cX3_finishLoads 1 = .ok (.istore_n 1, 1) := by decide +kernel
theorem dX3_finishLoads_2 : decode cX3_finishLoads 2 = .ok (.iload_n 1, 1) := by decide +kernel
theorem dX3_finishLoads_3 : decode cX3_finishLoads 3 = .ok (.iconst 4, 1) := by decide +kernel
theorem dX3_finishLoads_4 : decode cX3_finishLoads 4 = .ok (.if_icmp .ge 50, 3) := by decide +kernel
theorem dX3_finishLoads_7 : decode cX3_finishLoads 7 = .ok (.aload_n 0, 1) := by decide +kernel
theorem dX3_finishLoads_8 : decode cX3_finishLoads 8 = .ok (.getfield 11, 3) := by decide +kernel
theorem dX3_finishLoads_11 : decode cX3_finishLoads 11 = .ok (.iload_n 1, 1) := by decide +kernel
theorem dX3_finishLoads_12 : decode cX3_finishLoads 12 = .ok (.aaload, 1) := by decide +kernel
theorem dX3_finishLoads_13 : decode cX3_finishLoads 13 = .ok (.astore_n 2, 1) := by decide +kernel
theorem dX3_finishLoads_14 : decode cX3_finishLoads 14 = .ok (.aload_n 2, 1) := by decide +kernel
theorem dX3_finishLoads_15 : decode cX3_finishLoads 15 = .ok (.aload_n 0, 1) := by decide +kernel
theorem dX3_finishLoads_16 : decode cX3_finishLoads 16 = .ok (.getfield 62, 3) := by decide +kernel
theorem dX3_finishLoads_19 : decode cX3_finishLoads 19 = .ok (.invokevirtual 105, 3) := by decide +kernel
theorem dX3_finishLoads_22 : decode cX3_finishLoads 22 = .ok (.ifCond .eq 26, 3) := by decide +kernel
theorem dX3_finishLoads_25 : decode cX3_finishLoads 25 = .ok (.aload_n 2, 1) := by decide +kernel
theorem dX3_finishLoads_26 : decode cX3_finishLoads 26 = .ok (.getfield 140, 3) := by decide +kernel
theorem dX3_finishLoads_29 : decode cX3_finishLoads 29 = .ok (.aload_n 2, 1) := by decide +kernel
theorem dX3_finishLoads_30 : decode cX3_finishLoads 30 = .ok (.getfield 143, 3) := by decide +kernel
theorem dX3_finishLoads_33 : decode cX3_finishLoads 33 = .ok (.aload_n 0, 1) := by decide +kernel
theorem dX3_finishLoads_34 : decode cX3_finishLoads 34 = .ok (.getfield 28, 3) := by decide +kernel
theorem dX3_finishLoads_37 : decode cX3_finishLoads 37 = .ok (.aload_n 2, 1) := by decide +kernel
theorem dX3_finishLoads_38 : decode cX3_finishLoads 38 = .ok (.getfield 146, 3) := by decide +kernel
theorem dX3_finishLoads_41 : decode cX3_finishLoads 41 = .ok (.iaload, 1) := by decide +kernel
theorem dX3_finishLoads_42 : decode cX3_finishLoads 42 = .ok (.iastore, 1) := by decide +kernel
theorem dX3_finishLoads_43 : decode cX3_finishLoads 43 = .ok (.aload_n 2, 1) := by decide +kernel
theorem dX3_finishLoads_44 : decode cX3_finishLoads 44 = .ok (.iconst 1, 1) := by decide +kernel
theorem dX3_finishLoads_45 : decode cX3_finishLoads 45 = .ok (.putfield 102, 3) := by decide +kernel
theorem dX3_finishLoads_48 : decode cX3_finishLoads 48 = .ok (.iinc 1 1, 3) := by decide +kernel
theorem dX3_finishLoads_51 : decode cX3_finishLoads 51 = .ok (.goto (-49), 3) := by decide +kernel
theorem dX3_finishLoads_54 : decode cX3_finishLoads 54 = .ok (.return_, 1) := by decide +kernel
theorem dX3_doesBarrierOpen_0 : decode cX3_doesBarrierOpen 0 = .ok (.iconst 0, 1) := by decide +kernel
theorem dX3_doesBarrierOpen_1 : decode cX3_doesBarrierOpen 1 = .ok (.istore_n 1, 1) := by decide +kernel
theorem dX3_doesBarrierOpen_2 : decode cX3_doesBarrierOpen 2 = .ok (.iconst 0, 1) := by decide +kernel
theorem dX3_doesBarrierOpen_3 : decode cX3_doesBarrierOpen 3 = .ok (.istore_n 2, 1) := by decide +kernel
theorem dX3_doesBarrierOpen_4 : decode cX3_doesBarrierOpen 4 = .ok (.iload_n 2, 1) := by decide +kernel
theorem dX3_doesBarrierOpen_5 : decode cX3_doesBarrierOpen 5 = .ok (.iconst 4, 1) := by decide +kernel
theorem dX3_doesBarrierOpen_6 : decode cX3_doesBarrierOpen 6 = .ok (.if_icmp .ge 46, 3) := by decide +kernel
theorem dX3_doesBarrierOpen_9 : decode cX3_doesBarrierOpen 9 = .ok (.aload_n 0, 1) := by decide +kernel
theorem dX3_doesBarrierOpen_10 : decode cX3_doesBarrierOpen 10 = .ok (.getfield 11, 3) := by decide +kernel
theorem dX3_doesBarrierOpen_13 : decode cX3_doesBarrierOpen 13 = .ok (.iload_n 2, 1) := by decide +kernel
theorem dX3_doesBarrierOpen_14 : decode cX3_doesBarrierOpen 14 = .ok (.aaload, 1) := by decide +kernel
theorem dX3_doesBarrierOpen_15 : decode cX3_doesBarrierOpen 15 = .ok (.getfield 102, 3) := by decide +kernel
theorem dX3_doesBarrierOpen_18 : decode cX3_doesBarrierOpen 18 = .ok (.istore_n 3, 1) := by decide +kernel
theorem dX3_doesBarrierOpen_19 : decode cX3_doesBarrierOpen 19 = .ok (.iload_n 3, 1) := by decide +kernel
theorem dX3_doesBarrierOpen_20 : decode cX3_doesBarrierOpen 20 = .ok (.iconst 1, 1) := by decide +kernel
theorem dX3_doesBarrierOpen_21 : decode cX3_doesBarrierOpen 21 = .ok (.if_icmp .eq 8, 3) := by decide +kernel
theorem dX3_doesBarrierOpen_24 : decode cX3_doesBarrierOpen 24 = .ok (.iload_n 3, 1) := by decide +kernel
theorem dX3_doesBarrierOpen_25 : decode cX3_doesBarrierOpen 25 = .ok (.iconst 2, 1) := by decide +kernel
theorem dX3_doesBarrierOpen_26 : decode cX3_doesBarrierOpen 26 = .ok (.if_icmp .ne 5, 3) := by decide +kernel
theorem dX3_doesBarrierOpen_29 : decode cX3_doesBarrierOpen 29 = .ok (.iconst 0, 1) := by decide +kernel
theorem dX3_doesBarrierOpen_30 : decode cX3_doesBarrierOpen 30 = .ok (.ireturn, 1) := by decide +kernel
theorem dX3_doesBarrierOpen_31 : decode cX3_doesBarrierOpen 31 = .ok (.iload_n 1, 1) := by decide +kernel
theorem dX3_doesBarrierOpen_32 : decode cX3_doesBarrierOpen 32 = .ok (.ifCond .ne 8, 3) := by decide +kernel
theorem dX3_doesBarrierOpen_35 : decode cX3_doesBarrierOpen 35 = .ok (.iload_n 3, 1) := by decide +kernel
theorem dX3_doesBarrierOpen_36 : decode cX3_doesBarrierOpen 36 = .ok (.iconst 3, 1) := by decide +kernel
theorem dX3_doesBarrierOpen_37 : decode cX3_doesBarrierOpen 37 = .ok (.if_icmp .ne 7, 3) := by decide +kernel
theorem dX3_doesBarrierOpen_40 : decode cX3_doesBarrierOpen 40 = .ok (.iconst 1, 1) := by decide +kernel
theorem dX3_doesBarrierOpen_41 : decode cX3_doesBarrierOpen 41 = .ok (.goto 4, 3) := by decide +kernel
theorem dX3_doesBarrierOpen_44 : decode cX3_doesBarrierOpen 44 = .ok (.iconst 0, 1) := by decide +kernel
theorem dX3_doesBarrierOpen_45 : decode cX3_doesBarrierOpen 45 = .ok (.istore_n 1, 1) := by decide +kernel
theorem dX3_doesBarrierOpen_46 : decode cX3_doesBarrierOpen 46 = .ok (.iinc 2 1, 3) := by decide +kernel
theorem dX3_doesBarrierOpen_49 : decode cX3_doesBarrierOpen 49 = .ok (.goto (-45), 3) := by decide +kernel
theorem dX3_doesBarrierOpen_52 : decode cX3_doesBarrierOpen 52 = .ok (.iload_n 1, 1) := by decide +kernel
theorem dX3_doesBarrierOpen_53 : decode cX3_doesBarrierOpen 53 = .ok (.ireturn, 1) := by decide +kernel
set_option maxRecDepth 20000 in
theorem ggX3_openBarrier_X3_doesBarrierOpen : GoodIn wsX3_openBarrier wsX3_doesBarrierOpen := goodIn_r _ [6, 1, 7, 8, 9, 10, 11, 12, 13, 14, 15, 16, 17, 18, 19, 20, 21, 22, 23, 24, 25, 26] (by decide +kernel) (by decide +kernel)
set_option maxRecDepth 20000 in
theorem gX3_openBarrier_X3_doesBarrierOpen : GoodIn wsX3_openBarrier (wsV RX3 99 RX3 yX3_doesBarrierOpen wsX3_doesBarrierOpen) := goodIn_app (goodIn_of _ (by decide +kernel)) ggX3_openBarrier_X3_doesBarrierOpen
theorem dX3_openBarrier_0 : decode cX3_openBarrier 0 = .ok (.aload_n 0, 1) := by decide +kernel
theorem dX3_openBarrier_1 : decode cX3_openBarrier 1 = .ok (.invokevirtual 99, 3) := by decide +kernel
theorem dX3_openBarrier_4 : decode cX3_openBarrier 4 = .ok (.ifCond .ne 4, 3) := by decide +kernel
theorem dX3_openBarrier_7 : decode cX3_openBarrier 7 = .ok (.return_, 1) := by decide +kernel
theorem dX3_openBarrier_8 : decode cX3_openBarrier 8 = .ok (.iconst 0, 1) := by decide +kernel
theorem dX3_openBarrier_9 : decode cX3_openBarrier 9 = .ok (.istore_n 1, 1) := by decide +kernel
theorem dX3_openBarrier_10 : decode cX3_openBarrier 10 = .ok (.iload_n 1, 1) := by decide +kernel
theorem dX3_openBarrier_11 : decode cX3_openBarrier 11 = .ok (.iconst 4, 1) := by decide +kernel
theorem dX3_openBarrier_12 : decode cX3_openBarrier 12 = .ok (.if_icmp .ge 32, 3) := by decide +kernel
theorem dX3_openBarrier_15 : decode cX3_openBarrier 15 = .ok (.aload_n 0, 1) := by decide +kernel
theorem dX3_openBarrier_16 : decode cX3_openBarrier 16 = .ok (.getfield 11, 3) := by decide +kernel
theorem dX3_openBarrier_19 : decode cX3_openBarrier 19 = .ok (.iload_n 1, 1) := by decide +kernel
theorem dX3_openBarrier_20 : decode cX3_openBarrier 20 = .ok (.aaload, 1) := by decide +kernel
theorem dX3_openBarrier_21 : decode cX3_openBarrier 21 = .ok (.getfield 102, 3) := by decide +kernel
theorem dX3_openBarrier_24 : decode cX3_openBarrier 24 = .ok (.iconst 3, 1) := by decide +kernel
theorem dX3_openBarrier_25 : decode cX3_openBarrier 25 = .ok (.if_icmp .ne 13, 3) := by decide +kernel
theorem dX3_openBarrier_28 : decode cX3_openBarrier 28 = .ok (.aload_n 0, 1) := by decide +kernel
theorem dX3_openBarrier_29 : decode cX3_openBarrier 29 = .ok (.getfield 11, 3) := by decide +kernel
theorem dX3_openBarrier_32 : decode cX3_openBarrier 32 = .ok (.iload_n 1, 1) := by decide +kernel
theorem dX3_openBarrier_33 : decode cX3_openBarrier 33 = .ok (.aaload, 1) := by decide +kernel
theorem dX3_openBarrier_34 : decode cX3_openBarrier 34 = .ok (.iconst 1, 1) := by decide +kernel
theorem dX3_openBarrier_35 : decode cX3_openBarrier 35 = .ok (.putfield 102, 3) := by decide +kernel
theorem dX3_openBarrier_38 : decode cX3_openBarrier 38 = .ok (.iinc 1 1, 3) := by decide +kernel
theorem dX3_openBarrier_41 : decode cX3_openBarrier 41 = .ok (.goto (-31), 3) := by decide +kernel
theorem dX3_openBarrier_44 : decode cX3_openBarrier 44 = .ok (.return_, 1) := by decide +kernel
set_option maxRecDepth 20000 in
theorem ggX3_countStarving_X0_countCycle : GoodIn wsX3_countStarving wsX0_countCycle := goodIn_r _ [6, 7, 8, 9, 10, 11, 12, 22, 23, 24, 25, 26, 27, 28, 29, 30, 31, 32] (by decide +kernel) (by decide +kernel)
set_option maxRecDepth 20000 in
theorem gX3_countStarving_X0_countCycle : GoodIn wsX3_countStarving (wsV RX3 149 RX0 yX0_countCycle wsX0_countCycle) := goodIn_app (goodIn_of _ (by decide +kernel)) ggX3_countStarving_X0_countCycle
theorem dX3_countStarving_0 : decode cX3_countStarving 0 = .ok (.iconst 0, 1) := by decide +kernel
theorem dX3_countStarving_1 : decode cX3_countStarving 1 = .ok (.istore_n 2, 1) := by decide +kernel
theorem dX3_countStarving_2 : decode cX3_countStarving 2 = .ok (.iload_n 2, 1) := by decide +kernel
theorem dX3_countStarving_3 : decode cX3_countStarving 3 = .ok (.iconst 4, 1) := by decide +kernel
theorem dX3_countStarving_4 : decode cX3_countStarving 4 = .ok (.if_icmp .ge 38, 3) := by decide +kernel
theorem dX3_countStarving_7 : decode cX3_countStarving 7 = .ok (.aload_n 0, 1) := by decide +kernel
theorem dX3_countStarving_8 : decode cX3_countStarving 8 = .ok (.getfield 11, 3) := by decide +kernel
theorem dX3_countStarving_11 : decode cX3_countStarving 11 = .ok (.iload_n 2, 1) := by decide +kernel
theorem dX3_countStarving_12 : decode cX3_countStarving 12 = .ok (.aaload, 1) := by decide +kernel
theorem dX3_countStarving_13 : decode cX3_countStarving 13 = .ok (.astore_n 3, 1) := by decide +kernel
theorem dX3_countStarving_14 : decode cX3_countStarving 14 = .ok (.aload_n 3, 1) := by decide +kernel
theorem dX3_countStarving_15 : decode cX3_countStarving 15 = .ok (.aload_n 3, 1) := by decide +kernel
theorem dX3_countStarving_16 : decode cX3_countStarving 16 = .ok (.getfield 102, 3) := by decide +kernel
theorem dX3_countStarving_19 : decode cX3_countStarving 19 = .ok (.iconst 1, 1) := by decide +kernel
theorem dX3_countStarving_20 : decode cX3_countStarving 20 = .ok (.if_icmp .ne 12, 3) := by decide +kernel
theorem dX3_countStarving_23 : decode cX3_countStarving 23 = .ok (.iload_n 2, 1) := by decide +kernel
theorem dX3_countStarving_24 : decode cX3_countStarving 24 = .ok (.iload_n 1, 1) := by decide +kernel
theorem dX3_countStarving_25 : decode cX3_countStarving 25 = .ok (.if_icmp .eq 7, 3) := by decide +kernel
theorem dX3_countStarving_28 : decode cX3_countStarving 28 = .ok (.iconst 1, 1) := by decide +kernel
theorem dX3_countStarving_29 : decode cX3_countStarving 29 = .ok (.goto 4, 3) := by decide +kernel
theorem dX3_countStarving_32 : decode cX3_countStarving 32 = .ok (.iconst 0, 1) := by decide +kernel
theorem dX3_countStarving_33 : decode cX3_countStarving 33 = .ok (.invokevirtual 149, 3) := by decide +kernel
theorem dX3_countStarving_36 : decode cX3_countStarving 36 = .ok (.iinc 2 1, 3) := by decide +kernel
theorem dX3_countStarving_39 : decode cX3_countStarving 39 = .ok (.goto (-37), 3) := by decide +kernel
theorem dX3_countStarving_42 : decode cX3_countStarving 42 = .ok (.return_, 1) := by decide +kernel
set_option maxRecDepth 20000 in
theorem ggX3_noteIssue_X3_slotOwner : GoodIn wsX3_noteIssue wsX3_slotOwner := goodIn_r _ [8, 9, 2, 22, 23, 24, 25, 26, 27, 28, 29, 30] (by decide +kernel) (by decide +kernel)
set_option maxRecDepth 20000 in
theorem gX3_noteIssue_X3_slotOwner : GoodIn wsX3_noteIssue (wsV RX3 84 RX3 yX3_slotOwner wsX3_slotOwner) := goodIn_app (goodIn_of _ (by decide +kernel)) ggX3_noteIssue_X3_slotOwner
set_option maxRecDepth 20000 in
theorem ggX3_noteIssue_X5_note : GoodIn wsX3_noteIssue wsX5_note := goodIn_r _ [14, 15, 16, 17, 18, 19, 20, 21, 42, 43, 44] (by decide +kernel) (by decide +kernel)
set_option maxRecDepth 20000 in
theorem gX3_noteIssue_X5_note : GoodIn wsX3_noteIssue (wsV RX3 159 RX5 yX5_note wsX5_note) := goodIn_app (goodIn_of _ (by decide +kernel)) ggX3_noteIssue_X5_note
theorem dX3_noteIssue_0 : decode cX3_noteIssue 0 = .ok (.aload_n 0, 1) := by decide +kernel
theorem dX3_noteIssue_1 : decode cX3_noteIssue 1 = .ok (.getfield 11, 3) := by decide +kernel
theorem dX3_noteIssue_4 : decode cX3_noteIssue 4 = .ok (.iload_n 1, 1) := by decide +kernel
theorem dX3_noteIssue_5 : decode cX3_noteIssue 5 = .ok (.aaload, 1) := by decide +kernel
theorem dX3_noteIssue_6 : decode cX3_noteIssue 6 = .ok (.astore_n 2, 1) := by decide +kernel
theorem dX3_noteIssue_7 : decode cX3_noteIssue 7 = .ok (.aload_n 2, 1) := by decide +kernel
theorem dX3_noteIssue_8 : decode cX3_noteIssue 8 = .ok (.dup, 1) := by decide +kernel
theorem dX3_noteIssue_9 : decode cX3_noteIssue 9 = .ok (.getfield 153, 3) := by decide +kernel
theorem dX3_noteIssue_12 : decode cX3_noteIssue 12 = .ok (.iconst 1, 1) := by decide +kernel
theorem dX3_noteIssue_13 : decode cX3_noteIssue 13 = .ok (.iadd, 1) := by decide +kernel
theorem dX3_noteIssue_14 : decode cX3_noteIssue 14 = .ok (.putfield 153, 3) := by decide +kernel
theorem dX3_noteIssue_17 : decode cX3_noteIssue 17 = .ok (.iload_n 1, 1) := by decide +kernel
theorem dX3_noteIssue_18 : decode cX3_noteIssue 18 = .ok (.aload_n 0, 1) := by decide +kernel
theorem dX3_noteIssue_19 : decode cX3_noteIssue 19 = .ok (.invokevirtual 84, 3) := by decide +kernel
theorem dX3_noteIssue_22 : decode cX3_noteIssue 22 = .ok (.if_icmp .eq 13, 3) := by decide +kernel
theorem dX3_noteIssue_25 : decode cX3_noteIssue 25 = .ok (.aload_n 2, 1) := by decide +kernel
theorem dX3_noteIssue_26 : decode cX3_noteIssue 26 = .ok (.dup, 1) := by decide +kernel
theorem dX3_noteIssue_27 : decode cX3_noteIssue 27 = .ok (.getfield 156, 3) := by decide +kernel
theorem dX3_noteIssue_30 : decode cX3_noteIssue 30 = .ok (.iconst 1, 1) := by decide +kernel
theorem dX3_noteIssue_31 : decode cX3_noteIssue 31 = .ok (.iadd, 1) := by decide +kernel
theorem dX3_noteIssue_32 : decode cX3_noteIssue 32 = .ok (.putfield 156, 3) := by decide +kernel
theorem dX3_noteIssue_35 : decode cX3_noteIssue 35 = .ok (.aload_n 2, 1) := by decide +kernel
theorem dX3_noteIssue_36 : decode cX3_noteIssue 36 = .ok (.aload_n 0, 1) := by decide +kernel
theorem dX3_noteIssue_37 : decode cX3_noteIssue 37 = .ok (.getfield 62, 3) := by decide +kernel
theorem dX3_noteIssue_40 : decode cX3_noteIssue 40 = .ok (.putfield 109, 3) := by decide +kernel
theorem dX3_noteIssue_43 : decode cX3_noteIssue 43 = .ok (.aload_n 0, 1) := by decide +kernel
theorem dX3_noteIssue_44 : decode cX3_noteIssue 44 = .ok (.getfield 40, 3) := by decide +kernel
theorem dX3_noteIssue_47 : decode cX3_noteIssue 47 = .ok (.aload_n 0, 1) := by decide +kernel
theorem dX3_noteIssue_48 : decode cX3_noteIssue 48 = .ok (.getfield 62, 3) := by decide +kernel
theorem dX3_noteIssue_51 : decode cX3_noteIssue 51 = .ok (.iload_n 1, 1) := by decide +kernel
theorem dX3_noteIssue_52 : decode cX3_noteIssue 52 = .ok (.aload_n 2, 1) := by decide +kernel
theorem dX3_noteIssue_53 : decode cX3_noteIssue 53 = .ok (.getfield 118, 3) := by decide +kernel
theorem dX3_noteIssue_56 : decode cX3_noteIssue 56 = .ok (.invokevirtual 159, 3) := by decide +kernel
theorem dX3_noteIssue_59 : decode cX3_noteIssue 59 = .ok (.return_, 1) := by decide +kernel
set_option maxRecDepth 20000 in
theorem ggX3_executeNext_X6_isPlace : GoodIn wsX3_executeNext wsX6_isPlace := goodIn_r _ [4, 5, 6, 3, 7] (by decide +kernel) (by decide +kernel)
set_option maxRecDepth 20000 in
theorem gX3_executeNext_X6_isPlace_n121 : GoodIn wsX3_executeNext (wsX6_isPlace) := ggX3_executeNext_X6_isPlace
set_option maxRecDepth 20000 in
theorem ggX3_executeNext_X3_calculate : GoodIn wsX3_executeNext wsX3_calculate := goodIn_r _ [11] (by decide +kernel) (by decide +kernel)
set_option maxRecDepth 20000 in
theorem gX3_executeNext_X3_calculate : GoodIn wsX3_executeNext (va_wsS RX3 169 yX3_calculate wsX3_calculate) := goodIn_app (goodIn_of _ (by decide +kernel)) ggX3_executeNext_X3_calculate
set_option maxRecDepth 20000 in
theorem ggX3_executeNext_X3_reachMemory : GoodIn wsX3_executeNext wsX3_reachMemory := goodIn_r _ [15, 16, 17, 18, 19, 20, 21, 22, 23, 24, 25, 26, 27, 31, 32, 33, 34, 35, 36, 37, 38, 39, 40, 41, 42, 43, 44, 45, 46, 47, 48, 49, 50] (by decide +kernel) (by decide +kernel)
set_option maxRecDepth 20000 in
theorem gX3_executeNext_X3_reachMemory : GoodIn wsX3_executeNext (wsV RX3 173 RX3 yX3_reachMemory wsX3_reachMemory) := goodIn_app (goodIn_of _ (by decide +kernel)) ggX3_executeNext_X3_reachMemory
set_option maxRecDepth 20000 in
theorem ggX3_executeNext_X3_steer : GoodIn wsX3_executeNext wsX3_steer := goodIn_r _ [30, 31, 32, 33, 34, 35, 36, 37, 38, 39, 40, 41] (by decide +kernel) (by decide +kernel)
set_option maxRecDepth 20000 in
theorem gX3_executeNext_X3_steer : GoodIn wsX3_executeNext (va_wsS RX3 177 yX3_steer wsX3_steer) := goodIn_app (goodIn_of _ (by decide +kernel)) ggX3_executeNext_X3_steer
theorem dX3_executeNext_0 : decode cX3_executeNext 0 = .ok (.aload_n 1, 1) := by decide +kernel
theorem dX3_executeNext_1 : decode cX3_executeNext 1 = .ok (.getfield 118, 3) := by decide +kernel
theorem dX3_executeNext_4 : decode cX3_executeNext 4 = .ok (.istore_n 2, 1) := by decide +kernel
theorem dX3_executeNext_5 : decode cX3_executeNext 5 = .ok (.iload_n 2, 1) := by decide +kernel
theorem dX3_executeNext_6 : decode cX3_executeNext 6 = .ok (.invokestatic 121, 3) := by decide +kernel
theorem dX3_executeNext_9 : decode cX3_executeNext 9 = .ok (.ifCond .ne 9, 3) := by decide +kernel
theorem dX3_executeNext_12 : decode cX3_executeNext 12 = .ok (.aload_n 1, 1) := by decide +kernel
theorem dX3_executeNext_13 : decode cX3_executeNext 13 = .ok (.iconst 0, 1) := by decide +kernel
theorem dX3_executeNext_14 : decode cX3_executeNext 14 = .ok (.putfield 102, 3) := by decide +kernel
theorem dX3_executeNext_17 : decode cX3_executeNext 17 = .ok (.return_, 1) := by decide +kernel
theorem dX3_executeNext_18 : decode cX3_executeNext 18 = .ok (.aload_n 1, 1) := by decide +kernel
theorem dX3_executeNext_19 : decode cX3_executeNext 19 = .ok (.iload_n 2, 1) := by decide +kernel
theorem dX3_executeNext_20 : decode cX3_executeNext 20 = .ok (.iconst 1, 1) := by decide +kernel
theorem dX3_executeNext_21 : decode cX3_executeNext 21 = .ok (.iadd, 1) := by decide +kernel
theorem dX3_executeNext_22 : decode cX3_executeNext 22 = .ok (.putfield 118, 3) := by decide +kernel
theorem dX3_executeNext_25 : decode cX3_executeNext 25 = .ok (.aload_n 0, 1) := by decide +kernel
theorem dX3_executeNext_26 : decode cX3_executeNext 26 = .ok (.getfield 20, 3) := by decide +kernel
theorem dX3_executeNext_29 : decode cX3_executeNext 29 = .ok (.getfield 163, 3) := by decide +kernel
theorem dX3_executeNext_32 : decode cX3_executeNext 32 = .ok (.iload_n 2, 1) := by decide +kernel
theorem dX3_executeNext_33 : decode cX3_executeNext 33 = .ok (.iaload, 1) := by decide +kernel
theorem dX3_executeNext_34 : decode cX3_executeNext 34 = .ok (.istore_n 3, 1) := by decide +kernel
theorem dX3_executeNext_35 : decode cX3_executeNext 35 = .ok (.aload_n 0, 1) := by decide +kernel
theorem dX3_executeNext_36 : decode cX3_executeNext 36 = .ok (.getfield 20, 3) := by decide +kernel
theorem dX3_executeNext_39 : decode cX3_executeNext 39 = .ok (.getfield 166, 3) := by decide +kernel
theorem dX3_executeNext_42 : decode cX3_executeNext 42 = .ok (.iload_n 2, 1) := by decide +kernel
theorem dX3_executeNext_43 : decode cX3_executeNext 43 = .ok (.iconst 2, 1) := by decide +kernel
theorem dX3_executeNext_44 : decode cX3_executeNext 44 = .ok (.imul, 1) := by decide +kernel
theorem dX3_executeNext_45 : decode cX3_executeNext 45 = .ok (.iaload, 1) := by decide +kernel
theorem dX3_executeNext_46 : decode cX3_executeNext 46 = .ok (.istore 4, 2) := by decide +kernel
theorem dX3_executeNext_48 : decode cX3_executeNext 48 = .ok (.aload_n 0, 1) := by decide +kernel
theorem dX3_executeNext_49 : decode cX3_executeNext 49 = .ok (.getfield 20, 3) := by decide +kernel
theorem dX3_executeNext_52 : decode cX3_executeNext 52 = .ok (.getfield 166, 3) := by decide +kernel
theorem dX3_executeNext_55 : decode cX3_executeNext 55 = .ok (.iload_n 2, 1) := by decide +kernel
theorem dX3_executeNext_56 : decode cX3_executeNext 56 = .ok (.iconst 2, 1) := by decide +kernel
theorem dX3_executeNext_57 : decode cX3_executeNext 57 = .ok (.imul, 1) := by decide +kernel
theorem dX3_executeNext_58 : decode cX3_executeNext 58 = .ok (.iconst 1, 1) := by decide +kernel
theorem dX3_executeNext_59 : decode cX3_executeNext 59 = .ok (.iadd, 1) := by decide +kernel
theorem dX3_executeNext_60 : decode cX3_executeNext 60 = .ok (.iaload, 1) := by decide +kernel
theorem dX3_executeNext_61 : decode cX3_executeNext 61 = .ok (.istore 5, 2) := by decide +kernel
theorem dX3_executeNext_63 : decode cX3_executeNext 63 = .ok (.iload_n 3, 1) := by decide +kernel
theorem dX3_executeNext_64 : decode cX3_executeNext 64 = .ok (.iconst 3, 1) := by decide +kernel
theorem dX3_executeNext_65 : decode cX3_executeNext 65 = .ok (.if_icmp .gt 18, 3) := by decide +kernel
theorem dX3_executeNext_68 : decode cX3_executeNext 68 = .ok (.aload_n 1, 1) := by decide +kernel
theorem dX3_executeNext_69 : decode cX3_executeNext 69 = .ok (.getfield 140, 3) := by decide +kernel
theorem dX3_executeNext_72 : decode cX3_executeNext 72 = .ok (.iload_n 3, 1) := by decide +kernel
theorem dX3_executeNext_73 : decode cX3_executeNext 73 = .ok (.iload 4, 2) := by decide +kernel
theorem dX3_executeNext_75 : decode cX3_executeNext 75 = .ok (.iload 5, 2) := by decide +kernel
theorem dX3_executeNext_77 : decode cX3_executeNext 77 = .ok (.invokestatic 169, 3) := by decide +kernel
theorem dX3_executeNext_80 : decode cX3_executeNext 80 = .ok (.goto 31, 3) := by decide +kernel
theorem dX3_executeNext_83 : decode cX3_executeNext 83 = .ok (.iload_n 3, 1) := by decide +kernel
theorem dX3_executeNext_84 : decode cX3_executeNext 84 = .ok (.bipush 6, 2) := by decide +kernel
theorem dX3_executeNext_86 : decode cX3_executeNext 86 = .ok (.if_icmp .gt 16, 3) := by decide +kernel
theorem dX3_executeNext_89 : decode cX3_executeNext 89 = .ok (.aload_n 0, 1) := by decide +kernel
theorem dX3_executeNext_90 : decode cX3_executeNext 90 = .ok (.aload_n 1, 1) := by decide +kernel
theorem dX3_executeNext_91 : decode cX3_executeNext 91 = .ok (.iload_n 3, 1) := by decide +kernel
theorem dX3_executeNext_92 : decode cX3_executeNext 92 = .ok (.iload 4, 2) := by decide +kernel
theorem dX3_executeNext_94 : decode cX3_executeNext 94 = .ok (.iload 5, 2) := by decide +kernel
theorem dX3_executeNext_96 : decode cX3_executeNext 96 = .ok (.invokevirtual 173, 3) := by decide +kernel
theorem dX3_executeNext_99 : decode cX3_executeNext 99 = .ok (.goto 12, 3) := by decide +kernel
theorem dX3_executeNext_102 : decode cX3_executeNext 102 = .ok (.aload_n 1, 1) := by decide +kernel
theorem dX3_executeNext_103 : decode cX3_executeNext 103 = .ok (.iload_n 3, 1) := by decide +kernel
theorem dX3_executeNext_104 : decode cX3_executeNext 104 = .ok (.iload 4, 2) := by decide +kernel
theorem dX3_executeNext_106 : decode cX3_executeNext 106 = .ok (.iload 5, 2) := by decide +kernel
theorem dX3_executeNext_108 : decode cX3_executeNext 108 = .ok (.invokestatic 177, 3) := by decide +kernel
theorem dX3_executeNext_111 : decode cX3_executeNext 111 = .ok (.return_, 1) := by decide +kernel
theorem dX3_calculate_0 : decode cX3_calculate 0 = .ok (.iload_n 2, 1) := by decide +kernel
theorem dX3_calculate_1 : decode cX3_calculate 1 = .ok (.iconst 3, 1) := by decide +kernel
theorem dX3_calculate_2 : decode cX3_calculate 2 = .ok (.iand, 1) := by decide +kernel
theorem dX3_calculate_3 : decode cX3_calculate 3 = .ok (.istore 4, 2) := by decide +kernel
theorem dX3_calculate_5 : decode cX3_calculate 5 = .ok (.aload_n 0, 1) := by decide +kernel
theorem dX3_calculate_6 : decode cX3_calculate 6 = .ok (.iload_n 3, 1) := by decide +kernel
theorem dX3_calculate_7 : decode cX3_calculate 7 = .ok (.iconst 3, 1) := by decide +kernel
theorem dX3_calculate_8 : decode cX3_calculate 8 = .ok (.iand, 1) := by decide +kernel
theorem dX3_calculate_9 : decode cX3_calculate 9 = .ok (.iaload, 1) := by decide +kernel
theorem dX3_calculate_10 : decode cX3_calculate 10 = .ok (.istore 5, 2) := by decide +kernel
theorem dX3_calculate_12 : decode cX3_calculate 12 = .ok (.iload_n 1, 1) := by decide +kernel
theorem dX3_calculate_13 : decode cX3_calculate 13 = .ok (.tableswitch 65 0 2 #[27, 35, 50], 27) := by decide +kernel
theorem dX3_calculate_40 : decode cX3_calculate 40 = .ok (.aload_n 0, 1) := by decide +kernel
theorem dX3_calculate_41 : decode cX3_calculate 41 = .ok (.iload 4, 2) := by decide +kernel
theorem dX3_calculate_43 : decode cX3_calculate 43 = .ok (.iload_n 3, 1) := by decide +kernel
theorem dX3_calculate_44 : decode cX3_calculate 44 = .ok (.iastore, 1) := by decide +kernel
theorem dX3_calculate_45 : decode cX3_calculate 45 = .ok (.goto 45, 3) := by decide +kernel
theorem dX3_calculate_48 : decode cX3_calculate 48 = .ok (.aload_n 0, 1) := by decide +kernel
theorem dX3_calculate_49 : decode cX3_calculate 49 = .ok (.iload 4, 2) := by decide +kernel
theorem dX3_calculate_51 : decode cX3_calculate 51 = .ok (.aload_n 0, 1) := by decide +kernel
theorem dX3_calculate_52 : decode cX3_calculate 52 = .ok (.iload 4, 2) := by decide +kernel
theorem dX3_calculate_54 : decode cX3_calculate 54 = .ok (.iaload, 1) := by decide +kernel
theorem dX3_calculate_55 : decode cX3_calculate 55 = .ok (.iload 5, 2) := by decide +kernel
theorem dX3_calculate_57 : decode cX3_calculate 57 = .ok (.iadd, 1) := by decide +kernel
theorem dX3_calculate_58 : decode cX3_calculate 58 = .ok (.i2s, 1) := by decide +kernel
theorem dX3_calculate_59 : decode cX3_calculate 59 = .ok (.iastore, 1) := by decide +kernel
theorem dX3_calculate_60 : decode cX3_calculate 60 = .ok (.goto 30, 3) := by decide +kernel
theorem dX3_calculate_63 : decode cX3_calculate 63 = .ok (.aload_n 0, 1) := by decide +kernel
theorem dX3_calculate_64 : decode cX3_calculate 64 = .ok (.iload 4, 2) := by decide +kernel
theorem dX3_calculate_66 : decode cX3_calculate 66 = .ok (.aload_n 0, 1) := by decide +kernel
theorem dX3_calculate_67 : decode cX3_calculate 67 = .ok (.iload 4, 2) := by decide +kernel
theorem dX3_calculate_69 : decode cX3_calculate 69 = .ok (.iaload, 1) := by decide +kernel
theorem dX3_calculate_70 : decode cX3_calculate 70 = .ok (.iload 5, 2) := by decide +kernel
theorem dX3_calculate_72 : decode cX3_calculate 72 = .ok (.isub, 1) := by decide +kernel
theorem dX3_calculate_73 : decode cX3_calculate 73 = .ok (.i2s, 1) := by decide +kernel
theorem dX3_calculate_74 : decode cX3_calculate 74 = .ok (.iastore, 1) := by decide +kernel
theorem dX3_calculate_75 : decode cX3_calculate 75 = .ok (.goto 15, 3) := by decide +kernel
theorem dX3_calculate_78 : decode cX3_calculate 78 = .ok (.aload_n 0, 1) := by decide +kernel
theorem dX3_calculate_79 : decode cX3_calculate 79 = .ok (.iload 4, 2) := by decide +kernel
theorem dX3_calculate_81 : decode cX3_calculate 81 = .ok (.aload_n 0, 1) := by decide +kernel
theorem dX3_calculate_82 : decode cX3_calculate 82 = .ok (.iload 4, 2) := by decide +kernel
theorem dX3_calculate_84 : decode cX3_calculate 84 = .ok (.iaload, 1) := by decide +kernel
theorem dX3_calculate_85 : decode cX3_calculate 85 = .ok (.iload 5, 2) := by decide +kernel
theorem dX3_calculate_87 : decode cX3_calculate 87 = .ok (.imul, 1) := by decide +kernel
theorem dX3_calculate_88 : decode cX3_calculate 88 = .ok (.i2s, 1) := by decide +kernel
theorem dX3_calculate_89 : decode cX3_calculate 89 = .ok (.iastore, 1) := by decide +kernel
theorem dX3_calculate_90 : decode cX3_calculate 90 = .ok (.return_, 1) := by decide +kernel
set_option maxRecDepth 20000 in
theorem ggX3_reachMemory_X0_beginLoad : GoodIn wsX3_reachMemory wsX0_beginLoad := goodIn_r _ [8, 9, 10, 11, 12, 13, 14, 15, 16, 17, 18, 19, 20, 21, 22, 23] (by decide +kernel) (by decide +kernel)
set_option maxRecDepth 20000 in
theorem gX3_reachMemory_X0_beginLoad : GoodIn wsX3_reachMemory (wsV RX3 180 RX0 yX0_beginLoad wsX0_beginLoad) := goodIn_app (goodIn_of _ (by decide +kernel)) ggX3_reachMemory_X0_beginLoad
theorem dX3_reachMemory_0 : decode cX3_reachMemory 0 = .ok (.iload_n 3, 1) := by decide +kernel
theorem dX3_reachMemory_1 : decode cX3_reachMemory 1 = .ok (.iconst 3, 1) := by decide +kernel
theorem dX3_reachMemory_2 : decode cX3_reachMemory 2 = .ok (.iand, 1) := by decide +kernel
theorem dX3_reachMemory_3 : decode cX3_reachMemory 3 = .ok (.istore 5, 2) := by decide +kernel
theorem dX3_reachMemory_5 : decode cX3_reachMemory 5 = .ok (.aload_n 1, 1) := by decide +kernel
theorem dX3_reachMemory_6 : decode cX3_reachMemory 6 = .ok (.getfield 140, 3) := by decide +kernel
theorem dX3_reachMemory_9 : decode cX3_reachMemory 9 = .ok (.iload 4, 2) := by decide +kernel
theorem dX3_reachMemory_11 : decode cX3_reachMemory 11 = .ok (.iconst 3, 1) := by decide +kernel
theorem dX3_reachMemory_12 : decode cX3_reachMemory 12 = .ok (.iand, 1) := by decide +kernel
theorem dX3_reachMemory_13 : decode cX3_reachMemory 13 = .ok (.iaload, 1) := by decide +kernel
theorem dX3_reachMemory_14 : decode cX3_reachMemory 14 = .ok (.bipush 31, 2) := by decide +kernel
theorem dX3_reachMemory_16 : decode cX3_reachMemory 16 = .ok (.iand, 1) := by decide +kernel
theorem dX3_reachMemory_17 : decode cX3_reachMemory 17 = .ok (.istore 6, 2) := by decide +kernel
theorem dX3_reachMemory_19 : decode cX3_reachMemory 19 = .ok (.iload_n 2, 1) := by decide +kernel
theorem dX3_reachMemory_20 : decode cX3_reachMemory 20 = .ok (.iconst 4, 1) := by decide +kernel
theorem dX3_reachMemory_21 : decode cX3_reachMemory 21 = .ok (.if_icmp .ne 25, 3) := by decide +kernel
theorem dX3_reachMemory_24 : decode cX3_reachMemory 24 = .ok (.aload_n 1, 1) := by decide +kernel
theorem dX3_reachMemory_25 : decode cX3_reachMemory 25 = .ok (.iload 5, 2) := by decide +kernel
theorem dX3_reachMemory_27 : decode cX3_reachMemory 27 = .ok (.iload 6, 2) := by decide +kernel
theorem dX3_reachMemory_29 : decode cX3_reachMemory 29 = .ok (.aload_n 0, 1) := by decide +kernel
theorem dX3_reachMemory_30 : decode cX3_reachMemory 30 = .ok (.getfield 62, 3) := by decide +kernel
theorem dX3_reachMemory_33 : decode cX3_reachMemory 33 = .ok (.iconst 1, 1) := by decide +kernel
theorem dX3_reachMemory_34 : decode cX3_reachMemory 34 = .ok (.iadd, 1) := by decide +kernel
theorem dX3_reachMemory_35 : decode cX3_reachMemory 35 = .ok (.aload_n 0, 1) := by decide +kernel
theorem dX3_reachMemory_36 : decode cX3_reachMemory 36 = .ok (.getfield 34, 3) := by decide +kernel
theorem dX3_reachMemory_39 : decode cX3_reachMemory 39 = .ok (.iconst 0, 1) := by decide +kernel
theorem dX3_reachMemory_40 : decode cX3_reachMemory 40 = .ok (.iaload, 1) := by decide +kernel
theorem dX3_reachMemory_41 : decode cX3_reachMemory 41 = .ok (.iadd, 1) := by decide +kernel
theorem dX3_reachMemory_42 : decode cX3_reachMemory 42 = .ok (.invokevirtual 180, 3) := by decide +kernel
theorem dX3_reachMemory_45 : decode cX3_reachMemory 45 = .ok (.return_, 1) := by decide +kernel
theorem dX3_reachMemory_46 : decode cX3_reachMemory 46 = .ok (.aload_n 0, 1) := by decide +kernel
theorem dX3_reachMemory_47 : decode cX3_reachMemory 47 = .ok (.getfield 28, 3) := by decide +kernel
theorem dX3_reachMemory_50 : decode cX3_reachMemory 50 = .ok (.iload 6, 2) := by decide +kernel
theorem dX3_reachMemory_52 : decode cX3_reachMemory 52 = .ok (.iaload, 1) := by decide +kernel
theorem dX3_reachMemory_53 : decode cX3_reachMemory 53 = .ok (.istore 7, 2) := by decide +kernel
theorem dX3_reachMemory_55 : decode cX3_reachMemory 55 = .ok (.aload_n 0, 1) := by decide +kernel
theorem dX3_reachMemory_56 : decode cX3_reachMemory 56 = .ok (.getfield 28, 3) := by decide +kernel
theorem dX3_reachMemory_59 : decode cX3_reachMemory 59 = .ok (.iload 6, 2) := by decide +kernel
theorem dX3_reachMemory_61 : decode cX3_reachMemory 61 = .ok (.aload_n 1, 1) := by decide +kernel
theorem dX3_reachMemory_62 : decode cX3_reachMemory 62 = .ok (.getfield 140, 3) := by decide +kernel
theorem dX3_reachMemory_65 : decode cX3_reachMemory 65 = .ok (.iload 5, 2) := by decide +kernel
theorem dX3_reachMemory_67 : decode cX3_reachMemory 67 = .ok (.iaload, 1) := by decide +kernel
theorem dX3_reachMemory_68 : decode cX3_reachMemory 68 = .ok (.iastore, 1) := by decide +kernel
theorem dX3_reachMemory_69 : decode cX3_reachMemory 69 = .ok (.iload_n 2, 1) := by decide +kernel
theorem dX3_reachMemory_70 : decode cX3_reachMemory 70 = .ok (.bipush 6, 2) := by decide +kernel
theorem dX3_reachMemory_72 : decode cX3_reachMemory 72 = .ok (.if_icmp .ne 12, 3) := by decide +kernel
theorem dX3_reachMemory_75 : decode cX3_reachMemory 75 = .ok (.aload_n 1, 1) := by decide +kernel
theorem dX3_reachMemory_76 : decode cX3_reachMemory 76 = .ok (.getfield 140, 3) := by decide +kernel
theorem dX3_reachMemory_79 : decode cX3_reachMemory 79 = .ok (.iload 5, 2) := by decide +kernel
theorem dX3_reachMemory_81 : decode cX3_reachMemory 81 = .ok (.iload 7, 2) := by decide +kernel
theorem dX3_reachMemory_83 : decode cX3_reachMemory 83 = .ok (.iastore, 1) := by decide +kernel
theorem dX3_reachMemory_84 : decode cX3_reachMemory 84 = .ok (.return_, 1) := by decide +kernel
theorem dX3_steer_0 : decode cX3_steer 0 = .ok (.aload_n 0, 1) := by decide +kernel
theorem dX3_steer_1 : decode cX3_steer 1 = .ok (.getfield 140, 3) := by decide +kernel
theorem dX3_steer_4 : decode cX3_steer 4 = .ok (.iload_n 2, 1) := by decide +kernel
theorem dX3_steer_5 : decode cX3_steer 5 = .ok (.iconst 3, 1) := by decide +kernel
theorem dX3_steer_6 : decode cX3_steer 6 = .ok (.iand, 1) := by decide +kernel
theorem dX3_steer_7 : decode cX3_steer 7 = .ok (.iaload, 1) := by decide +kernel
theorem dX3_steer_8 : decode cX3_steer 8 = .ok (.istore 4, 2) := by decide +kernel
theorem dX3_steer_10 : decode cX3_steer 10 = .ok (.iload_n 1, 1) := by decide +kernel
theorem dX3_steer_11 : decode cX3_steer 11 = .ok (.tableswitch 85 7 10 #[29, 37, 57, 77], 29) := by decide +kernel
theorem dX3_steer_40 : decode cX3_steer 40 = .ok (.aload_n 0, 1) := by decide +kernel
theorem dX3_steer_41 : decode cX3_steer 41 = .ok (.iload_n 2, 1) := by decide +kernel
theorem dX3_steer_42 : decode cX3_steer 42 = .ok (.putfield 118, 3) := by decide +kernel
theorem dX3_steer_45 : decode cX3_steer 45 = .ok (.goto 56, 3) := by decide +kernel
theorem dX3_steer_48 : decode cX3_steer 48 = .ok (.aload_n 0, 1) := by decide +kernel
theorem dX3_steer_49 : decode cX3_steer 49 = .ok (.iload 4, 2) := by decide +kernel
theorem dX3_steer_51 : decode cX3_steer 51 = .ok (.ifCond .ne 7, 3) := by decide +kernel
theorem dX3_steer_54 : decode cX3_steer 54 = .ok (.iload_n 3, 1) := by decide +kernel
theorem dX3_steer_55 : decode cX3_steer 55 = .ok (.goto 7, 3) := by decide +kernel
theorem dX3_steer_58 : decode cX3_steer 58 = .ok (.aload_n 0, 1) := by decide +kernel
theorem dX3_steer_59 : decode cX3_steer 59 = .ok (.getfield 118, 3) := by decide +kernel
theorem dX3_steer_62 : decode cX3_steer 62 = .ok (.putfield 118, 3) := by decide +kernel
theorem dX3_steer_65 : decode cX3_steer 65 = .ok (.goto 36, 3) := by decide +kernel
theorem dX3_steer_68 : decode cX3_steer 68 = .ok (.aload_n 0, 1) := by decide +kernel
theorem dX3_steer_69 : decode cX3_steer 69 = .ok (.iload 4, 2) := by decide +kernel
theorem dX3_steer_71 : decode cX3_steer 71 = .ok (.ifCond .ge 7, 3) := by decide +kernel
theorem dX3_steer_74 : decode cX3_steer 74 = .ok (.iload_n 3, 1) := by decide +kernel
theorem dX3_steer_75 : decode cX3_steer 75 = .ok (.goto 7, 3) := by decide +kernel
theorem dX3_steer_78 : decode cX3_steer 78 = .ok (.aload_n 0, 1) := by decide +kernel
theorem dX3_steer_79 : decode cX3_steer 79 = .ok (.getfield 118, 3) := by decide +kernel
theorem dX3_steer_82 : decode cX3_steer 82 = .ok (.putfield 118, 3) := by decide +kernel
theorem dX3_steer_85 : decode cX3_steer 85 = .ok (.goto 16, 3) := by decide +kernel
theorem dX3_steer_88 : decode cX3_steer 88 = .ok (.aload_n 0, 1) := by decide +kernel
theorem dX3_steer_89 : decode cX3_steer 89 = .ok (.iconst 3, 1) := by decide +kernel
theorem dX3_steer_90 : decode cX3_steer 90 = .ok (.putfield 102, 3) := by decide +kernel
theorem dX3_steer_93 : decode cX3_steer 93 = .ok (.goto 8, 3) := by decide +kernel
theorem dX3_steer_96 : decode cX3_steer 96 = .ok (.aload_n 0, 1) := by decide +kernel
theorem dX3_steer_97 : decode cX3_steer 97 = .ok (.iconst 0, 1) := by decide +kernel
theorem dX3_steer_98 : decode cX3_steer 98 = .ok (.putfield 102, 3) := by decide +kernel
theorem dX3_steer_101 : decode cX3_steer 101 = .ok (.return_, 1) := by decide +kernel
set_option maxRecDepth 20000 in
theorem ggX4_init_X2_init : GoodIn wsX4_init wsX2_init := goodIn_r _ [12, 13, 2, 3, 14, 15, 16, 17, 18, 19, 20, 21, 28, 29] (by decide +kernel) (by decide +kernel)
set_option maxRecDepth 20000 in
theorem gX4_init_X2_init : GoodIn wsX4_init (wsX2_init) := ggX4_init_X2_init
theorem dX4_init_0 : decode cX4_init 0 = .ok (.aload_n 0, 1) := by decide +kernel
theorem dX4_init_1 : decode cX4_init 1 = .ok (.invokespecial 3, 3) := by decide +kernel
theorem dX4_init_4 : decode cX4_init 4 = .ok (.aload_n 0, 1) := by decide +kernel
theorem dX4_init_5 : decode cX4_init 5 = .ok (.bipush 100, 2) := by decide +kernel
theorem dX4_init_7 : decode cX4_init 7 = .ok (.newarray .char, 2) := by decide +kernel
theorem dX4_init_9 : decode cX4_init 9 = .ok (.putfield 11, 3) := by decide +kernel
theorem dX4_init_12 : decode cX4_init 12 = .ok (.aload_n 0, 1) := by decide +kernel
theorem dX4_init_13 : decode cX4_init 13 = .ok (.new 15, 3) := by decide +kernel
theorem dX4_init_16 : decode cX4_init 16 = .ok (.dup, 1) := by decide +kernel
theorem dX4_init_17 : decode cX4_init 17 = .ok (.invokespecial 17, 3) := by decide +kernel
theorem dX4_init_20 : decode cX4_init 20 = .ok (.putfield 18, 3) := by decide +kernel
theorem dX4_init_23 : decode cX4_init 23 = .ok (.return_, 1) := by decide +kernel
theorem dX4_add_0 : decode cX4_add 0 = .ok (.aload_n 0, 1) := by decide +kernel
theorem dX4_add_1 : decode cX4_add 1 = .ok (.getfield 22, 3) := by decide +kernel
theorem dX4_add_4 : decode cX4_add 4 = .ok (.bipush 100, 2) := by decide +kernel
theorem dX4_add_6 : decode cX4_add 6 = .ok (.if_icmp .ge 23, 3) := by decide +kernel
theorem dX4_add_9 : decode cX4_add 9 = .ok (.aload_n 0, 1) := by decide +kernel
theorem dX4_add_10 : decode cX4_add 10 = .ok (.getfield 11, 3) := by decide +kernel
theorem dX4_add_13 : decode cX4_add 13 = .ok (.aload_n 0, 1) := by decide +kernel
theorem dX4_add_14 : decode cX4_add 14 = .ok (.getfield 22, 3) := by decide +kernel
theorem dX4_add_17 : decode cX4_add 17 = .ok (.iload_n 1, 1) := by decide +kernel
theorem dX4_add_18 : decode cX4_add 18 = .ok (.castore, 1) := by decide +kernel
theorem dX4_add_19 : decode cX4_add 19 = .ok (.aload_n 0, 1) := by decide +kernel
theorem dX4_add_20 : decode cX4_add 20 = .ok (.dup, 1) := by decide +kernel
theorem dX4_add_21 : decode cX4_add 21 = .ok (.getfield 22, 3) := by decide +kernel
theorem dX4_add_24 : decode cX4_add 24 = .ok (.iconst 1, 1) := by decide +kernel
theorem dX4_add_25 : decode cX4_add 25 = .ok (.iadd, 1) := by decide +kernel
theorem dX4_add_26 : decode cX4_add 26 = .ok (.putfield 22, 3) := by decide +kernel
theorem dX4_add_29 : decode cX4_add 29 = .ok (.return_, 1) := by decide +kernel
