set_option maxRecDepth 20000 in
theorem ggX7_setRegister_X7_isThread : GoodIn wsX7_setRegister wsX7_isThread := goodIn_r _ [6, 7, 8, 5, 9] (by decide +kernel) (by decide +kernel)
set_option maxRecDepth 20000 in
theorem gX7_setRegister_X7_isThread : GoodIn wsX7_setRegister (va_wsS RX7 103 yX7_isThread wsX7_isThread) := goodIn_app (goodIn_of _ (by decide +kernel)) ggX7_setRegister_X7_isThread
set_option maxRecDepth 20000 in
theorem ggX7_setRegister_X7_in : GoodIn wsX7_setRegister wsX7_in := goodIn_r _ [9] (by decide +kernel) (by decide +kernel)
set_option maxRecDepth 20000 in
theorem gX7_setRegister_X7_in : GoodIn wsX7_setRegister (va_wsS RX7 26 yX7_in wsX7_in) := goodIn_app (goodIn_of _ (by decide +kernel)) ggX7_setRegister_X7_in
set_option maxRecDepth 20000 in
theorem ggX7_setRegister_X7_isShort : GoodIn wsX7_setRegister wsX7_isShort := goodIn_r _ [12, 7, 8, 5, 9] (by decide +kernel) (by decide +kernel)
set_option maxRecDepth 20000 in
theorem gX7_setRegister_X7_isShort : GoodIn wsX7_setRegister (va_wsS RX7 106 yX7_isShort wsX7_isShort) := goodIn_app (goodIn_of _ (by decide +kernel)) ggX7_setRegister_X7_isShort
set_option maxRecDepth 20000 in
theorem ggX7_setRegister_X7_records : GoodIn wsX7_setRegister wsX7_records := goodIn_r _ [16, 17, 18, 19, 31, 32, 33, 34, 35, 36, 37, 38, 39, 40, 41] (by decide +kernel) (by decide +kernel)
set_option maxRecDepth 20000 in
theorem gX7_setRegister_X7_records : GoodIn wsX7_setRegister (wsV RX7 85 RX7 yX7_records wsX7_records) := goodIn_app (goodIn_of _ (by decide +kernel)) ggX7_setRegister_X7_records
set_option maxRecDepth 20000 in
theorem ggX7_setRegister_X7_register0 : GoodIn wsX7_setRegister wsX7_register0 := goodIn_r _ [23, 19, 24, 25, 5, 26, 31, 32, 33, 34, 35, 36, 37, 38, 39, 40, 41] (by decide +kernel) (by decide +kernel)
set_option maxRecDepth 20000 in
theorem gX7_setRegister_X7_register0 : GoodIn wsX7_setRegister (wsV RX7 34 RX7 yX7_register0 wsX7_register0) := goodIn_app (goodIn_of _ (by decide +kernel)) ggX7_setRegister_X7_register0
set_option maxRecDepth 20000 in
theorem ggX7_setRegister_X7_puts : GoodIn wsX7_setRegister wsX7_puts := goodIn_r _ [30, 19, 24, 25, 5, 26, 31, 32, 33, 34, 35, 36, 37, 38, 39, 40, 41] (by decide +kernel) (by decide +kernel)
set_option maxRecDepth 20000 in
theorem gX7_setRegister_X7_puts : GoodIn wsX7_setRegister (wsV RX7 37 RX7 yX7_puts wsX7_puts) := goodIn_app (goodIn_of _ (by decide +kernel)) ggX7_setRegister_X7_puts
theorem dX7_setRegister_0 : decode cX7_setRegister 0 = .ok (.iload_n 1, 1) := by decide +kernel
theorem dX7_setRegister_1 : decode cX7_setRegister 1 = .ok (.invokestatic 103, 3) := by decide +kernel
theorem dX7_setRegister_4 : decode cX7_setRegister 4 = .ok (.ifCond .eq 12, 3) := by decide +kernel
theorem dX7_setRegister_7 : decode cX7_setRegister 7 = .ok (.iload_n 2, 1) := by decide +kernel
theorem dX7_setRegister_8 : decode cX7_setRegister 8 = .ok (.iconst 0, 1) := by decide +kernel
theorem dX7_setRegister_9 : decode cX7_setRegister 9 = .ok (.iconst 3, 1) := by decide +kernel
theorem dX7_setRegister_10 : decode cX7_setRegister 10 = .ok (.invokestatic 26, 3) := by decide +kernel
theorem dX7_setRegister_13 : decode cX7_setRegister 13 = .ok (.ifCond .ne 6, 3) := by decide +kernel
theorem dX7_setRegister_16 : decode cX7_setRegister 16 = .ok (.ldc 75, 2) := by decide +kernel
theorem dX7_setRegister_18 : decode cX7_setRegister 18 = .ok (.ireturn, 1) := by decide +kernel
theorem dX7_setRegister_19 : decode cX7_setRegister 19 = .ok (.iload_n 3, 1) := by decide +kernel
theorem dX7_setRegister_20 : decode cX7_setRegister 20 = .ok (.invokestatic 106, 3) := by decide +kernel
theorem dX7_setRegister_23 : decode cX7_setRegister 23 = .ok (.ifCond .ne 6, 3) := by decide +kernel
theorem dX7_setRegister_26 : decode cX7_setRegister 26 = .ok (.ldc 109, 2) := by decide +kernel
theorem dX7_setRegister_28 : decode cX7_setRegister 28 = .ok (.ireturn, 1) := by decide +kernel
theorem dX7_setRegister_29 : decode cX7_setRegister 29 = .ok (.aload_n 0, 1) := by decide +kernel
theorem dX7_setRegister_30 : decode cX7_setRegister 30 = .ok (.invokevirtual 85, 3) := by decide +kernel
theorem dX7_setRegister_33 : decode cX7_setRegister 33 = .ok (.aload_n 0, 1) := by decide +kernel
theorem dX7_setRegister_34 : decode cX7_setRegister 34 = .ok (.iload_n 1, 1) := by decide +kernel
theorem dX7_setRegister_35 : decode cX7_setRegister 35 = .ok (.iload_n 2, 1) := by decide +kernel
theorem dX7_setRegister_36 : decode cX7_setRegister 36 = .ok (.invokevirtual 34, 3) := by decide +kernel
theorem dX7_setRegister_39 : decode cX7_setRegister 39 = .ok (.istore 4, 2) := by decide +kernel
theorem dX7_setRegister_41 : decode cX7_setRegister 41 = .ok (.aload_n 0, 1) := by decide +kernel
theorem dX7_setRegister_42 : decode cX7_setRegister 42 = .ok (.iload_n 1, 1) := by decide +kernel
theorem dX7_setRegister_43 : decode cX7_setRegister 43 = .ok (.iload_n 2, 1) := by decide +kernel
theorem dX7_setRegister_44 : decode cX7_setRegister 44 = .ok (.iload_n 3, 1) := by decide +kernel
theorem dX7_setRegister_45 : decode cX7_setRegister 45 = .ok (.invokevirtual 37, 3) := by decide +kernel
theorem dX7_setRegister_48 : decode cX7_setRegister 48 = .ok (.iload 4, 2) := by decide +kernel
theorem dX7_setRegister_50 : decode cX7_setRegister 50 = .ok (.ireturn, 1) := by decide +kernel
set_option maxRecDepth 20000 in
theorem ggX7_setWord_X7_in : GoodIn wsX7_setWord wsX7_in := goodIn_r _ [7] (by decide +kernel) (by decide +kernel)
set_option maxRecDepth 20000 in
theorem gX7_setWord_X7_in : GoodIn wsX7_setWord (va_wsS RX7 26 yX7_in wsX7_in) := goodIn_app (goodIn_of _ (by decide +kernel)) ggX7_setWord_X7_in
set_option maxRecDepth 20000 in
theorem ggX7_setWord_X7_isShort : GoodIn wsX7_setWord wsX7_isShort := goodIn_r _ [10, 4, 5, 6, 7] (by decide +kernel) (by decide +kernel)
set_option maxRecDepth 20000 in
theorem gX7_setWord_X7_isShort : GoodIn wsX7_setWord (va_wsS RX7 106 yX7_isShort wsX7_isShort) := goodIn_app (goodIn_of _ (by decide +kernel)) ggX7_setWord_X7_isShort
set_option maxRecDepth 20000 in
theorem ggX7_setWord_X7_records : GoodIn wsX7_setWord wsX7_records := goodIn_r _ [14, 15, 16, 3, 17, 18, 19, 20, 21, 22, 23, 24, 25, 26, 27] (by decide +kernel) (by decide +kernel)
set_option maxRecDepth 20000 in
theorem gX7_setWord_X7_records : GoodIn wsX7_setWord (wsV RX7 85 RX7 yX7_records wsX7_records) := goodIn_app (goodIn_of _ (by decide +kernel)) ggX7_setWord_X7_records
theorem dX7_setWord_0 : decode cX7_setWord 0 = .ok (.iload_n 1, 1) := by decide +kernel
theorem dX7_setWord_1 : decode cX7_setWord 1 = .ok (.iconst 0, 1) := by decide +kernel
theorem dX7_setWord_2 : decode cX7_setWord 2 = .ok (.bipush 31, 2) := by decide +kernel
theorem dX7_setWord_4 : decode cX7_setWord 4 = .ok (.invokestatic 26, 3) := by decide +kernel
theorem dX7_setWord_7 : decode cX7_setWord 7 = .ok (.ifCond .ne 6, 3) := by decide +kernel
theorem dX7_setWord_10 : decode cX7_setWord 10 = .ok (.ldc 75, 2) := by decide +kernel
theorem dX7_setWord_12 : decode cX7_setWord 12 = .ok (.ireturn, 1) := by decide +kernel
theorem dX7_setWord_13 : decode cX7_setWord 13 = .ok (.iload_n 2, 1) := by decide +kernel
theorem dX7_setWord_14 : decode cX7_setWord 14 = .ok (.invokestatic 106, 3) := by decide +kernel
theorem dX7_setWord_17 : decode cX7_setWord 17 = .ok (.ifCond .ne 6, 3) := by decide +kernel
theorem dX7_setWord_20 : decode cX7_setWord 20 = .ok (.ldc 109, 2) := by decide +kernel
theorem dX7_setWord_22 : decode cX7_setWord 22 = .ok (.ireturn, 1) := by decide +kernel
theorem dX7_setWord_23 : decode cX7_setWord 23 = .ok (.aload_n 0, 1) := by decide +kernel
theorem dX7_setWord_24 : decode cX7_setWord 24 = .ok (.invokevirtual 85, 3) := by decide +kernel
theorem dX7_setWord_27 : decode cX7_setWord 27 = .ok (.aload_n 0, 1) := by decide +kernel
theorem dX7_setWord_28 : decode cX7_setWord 28 = .ok (.getfield 7, 3) := by decide +kernel
theorem dX7_setWord_31 : decode cX7_setWord 31 = .ok (.sipush 200, 3) := by decide +kernel
theorem dX7_setWord_34 : decode cX7_setWord 34 = .ok (.iload_n 1, 1) := by decide +kernel
theorem dX7_setWord_35 : decode cX7_setWord 35 = .ok (.iadd, 1) := by decide +kernel
theorem dX7_setWord_36 : decode cX7_setWord 36 = .ok (.iaload, 1) := by decide +kernel
theorem dX7_setWord_37 : decode cX7_setWord 37 = .ok (.istore_n 3, 1) := by decide +kernel
theorem dX7_setWord_38 : decode cX7_setWord 38 = .ok (.aload_n 0, 1) := by decide +kernel
theorem dX7_setWord_39 : decode cX7_setWord 39 = .ok (.getfield 7, 3) := by decide +kernel
theorem dX7_setWord_42 : decode cX7_setWord 42 = .ok (.sipush 200, 3) := by decide +kernel
theorem dX7_setWord_45 : decode cX7_setWord 45 = .ok (.iload_n 1, 1) := by decide +kernel
theorem dX7_setWord_46 : decode cX7_setWord 46 = .ok (.iadd, 1) := by decide +kernel
theorem dX7_setWord_47 : decode cX7_setWord 47 = .ok (.iload_n 2, 1) := by decide +kernel
theorem dX7_setWord_48 : decode cX7_setWord 48 = .ok (.iastore, 1) := by decide +kernel
theorem dX7_setWord_49 : decode cX7_setWord 49 = .ok (.iload_n 3, 1) := by decide +kernel
theorem dX7_setWord_50 : decode cX7_setWord 50 = .ok (.ireturn, 1) := by decide +kernel
set_option maxRecDepth 20000 in
theorem ggX7_setSlot_X7_in : GoodIn wsX7_setSlot wsX7_in := goodIn_r _ [6] (by decide +kernel) (by decide +kernel)
set_option maxRecDepth 20000 in
theorem gX7_setSlot_X7_in : GoodIn wsX7_setSlot (va_wsS RX7 26 yX7_in wsX7_in) := goodIn_app (goodIn_of _ (by decide +kernel)) ggX7_setSlot_X7_in
set_option maxRecDepth 20000 in
theorem ggX7_setSlot_X7_isThread : GoodIn wsX7_setSlot wsX7_isThread := goodIn_r _ [9, 3, 4, 5, 6] (by decide +kernel) (by decide +kernel)
set_option maxRecDepth 20000 in
theorem gX7_setSlot_X7_isThread : GoodIn wsX7_setSlot (va_wsS RX7 103 yX7_isThread wsX7_isThread) := goodIn_app (goodIn_of _ (by decide +kernel)) ggX7_setSlot_X7_isThread
set_option maxRecDepth 20000 in
theorem ggX7_setSlot_X7_records : GoodIn wsX7_setSlot wsX7_records := goodIn_r _ [13, 14, 15, 2, 16, 17, 18, 19, 20, 21, 22, 23, 24, 25, 26] (by decide +kernel) (by decide +kernel)
set_option maxRecDepth 20000 in
theorem gX7_setSlot_X7_records : GoodIn wsX7_setSlot (wsV RX7 85 RX7 yX7_records wsX7_records) := goodIn_app (goodIn_of _ (by decide +kernel)) ggX7_setSlot_X7_records
theorem dX7_setSlot_0 : decode cX7_setSlot 0 = .ok (.iload_n 1, 1) := by decide +kernel
theorem dX7_setSlot_1 : decode cX7_setSlot 1 = .ok (.iconst 0, 1) := by decide +kernel
theorem dX7_setSlot_2 : decode cX7_setSlot 2 = .ok (.bipush 7, 2) := by decide +kernel
theorem dX7_setSlot_4 : decode cX7_setSlot 4 = .ok (.invokestatic 26, 3) := by decide +kernel
theorem dX7_setSlot_7 : decode cX7_setSlot 7 = .ok (.ifCond .eq 10, 3) := by decide +kernel
theorem dX7_setSlot_10 : decode cX7_setSlot 10 = .ok (.iload_n 2, 1) := by decide +kernel
theorem dX7_setSlot_11 : decode cX7_setSlot 11 = .ok (.invokestatic 103, 3) := by decide +kernel
theorem dX7_setSlot_14 : decode cX7_setSlot 14 = .ok (.ifCond .ne 6, 3) := by decide +kernel
theorem dX7_setSlot_17 : decode cX7_setSlot 17 = .ok (.ldc 75, 2) := by decide +kernel
theorem dX7_setSlot_19 : decode cX7_setSlot 19 = .ok (.ireturn, 1) := by decide +kernel
theorem dX7_setSlot_20 : decode cX7_setSlot 20 = .ok (.aload_n 0, 1) := by decide +kernel
theorem dX7_setSlot_21 : decode cX7_setSlot 21 = .ok (.invokevirtual 85, 3) := by decide +kernel
theorem dX7_setSlot_24 : decode cX7_setSlot 24 = .ok (.aload_n 0, 1) := by decide +kernel
theorem dX7_setSlot_25 : decode cX7_setSlot 25 = .ok (.getfield 7, 3) := by decide +kernel
theorem dX7_setSlot_28 : decode cX7_setSlot 28 = .ok (.sipush 234, 3) := by decide +kernel
theorem dX7_setSlot_31 : decode cX7_setSlot 31 = .ok (.iload_n 1, 1) := by decide +kernel
theorem dX7_setSlot_32 : decode cX7_setSlot 32 = .ok (.iadd, 1) := by decide +kernel
theorem dX7_setSlot_33 : decode cX7_setSlot 33 = .ok (.iaload, 1) := by decide +kernel
theorem dX7_setSlot_34 : decode cX7_setSlot 34 = .ok (.istore_n 3, 1) := by decide +kernel
theorem dX7_setSlot_35 : decode cX7_setSlot 35 = .ok (.aload_n 0, 1) := by decide +kernel
theorem dX7_setSlot_36 : decode cX7_setSlot 36 = .ok (.getfield 7, 3) := by decide +kernel
theorem dX7_setSlot_39 : decode cX7_setSlot 39 = .ok (.sipush 234, 3) := by decide +kernel
theorem dX7_setSlot_42 : decode cX7_setSlot 42 = .ok (.iload_n 1, 1) := by decide +kernel
theorem dX7_setSlot_43 : decode cX7_setSlot 43 = .ok (.iadd, 1) := by decide +kernel
theorem dX7_setSlot_44 : decode cX7_setSlot 44 = .ok (.iload_n 2, 1) := by decide +kernel
theorem dX7_setSlot_45 : decode cX7_setSlot 45 = .ok (.iastore, 1) := by decide +kernel
theorem dX7_setSlot_46 : decode cX7_setSlot 46 = .ok (.iload_n 3, 1) := by decide +kernel
theorem dX7_setSlot_47 : decode cX7_setSlot 47 = .ok (.ireturn, 1) := by decide +kernel
set_option maxRecDepth 20000 in
theorem ggX7_set_X7_in : GoodIn wsX7_set wsX7_in := goodIn_r _ [7] (by decide +kernel) (by decide +kernel)
set_option maxRecDepth 20000 in
theorem gX7_set_X7_in : GoodIn wsX7_set (va_wsS RX7 26 yX7_in wsX7_in) := goodIn_app (goodIn_of _ (by decide +kernel)) ggX7_set_X7_in
set_option maxRecDepth 20000 in
theorem ggX7_set_X7_records : GoodIn wsX7_set wsX7_records := goodIn_r _ [11, 12, 13, 3, 14, 15, 16, 17, 18, 19, 20, 21, 22, 23, 24] (by decide +kernel) (by decide +kernel)
set_option maxRecDepth 20000 in
theorem gX7_set_X7_records : GoodIn wsX7_set (wsV RX7 85 RX7 yX7_records wsX7_records) := goodIn_app (goodIn_of _ (by decide +kernel)) ggX7_set_X7_records
theorem dX7_set_0 : decode cX7_set 0 = .ok (.iload_n 1, 1) := by decide +kernel
theorem dX7_set_1 : decode cX7_set 1 = .ok (.iconst 0, 1) := by decide +kernel
theorem dX7_set_2 : decode cX7_set 2 = .ok (.iconst 1, 1) := by decide +kernel
theorem dX7_set_3 : decode cX7_set 3 = .ok (.invokestatic 26, 3) := by decide +kernel
theorem dX7_set_6 : decode cX7_set 6 = .ok (.ifCond .ne 6, 3) := by decide +kernel
theorem dX7_set_9 : decode cX7_set 9 = .ok (.ldc 75, 2) := by decide +kernel
theorem dX7_set_11 : decode cX7_set 11 = .ok (.ireturn, 1) := by decide +kernel
theorem dX7_set_12 : decode cX7_set 12 = .ok (.iload_n 2, 1) := by decide +kernel
theorem dX7_set_13 : decode cX7_set 13 = .ok (.iconst 0, 1) := by decide +kernel
theorem dX7_set_14 : decode cX7_set 14 = .ok (.iload_n 1, 1) := by decide +kernel
theorem dX7_set_15 : decode cX7_set 15 = .ok (.ifCond .ne 8, 3) := by decide +kernel
theorem dX7_set_18 : decode cX7_set 18 = .ok (.bipush 20, 2) := by decide +kernel
theorem dX7_set_20 : decode cX7_set 20 = .ok (.goto 4, 3) := by decide +kernel
theorem dX7_set_23 : decode cX7_set 23 = .ok (.iconst 2, 1) := by decide +kernel
theorem dX7_set_24 : decode cX7_set 24 = .ok (.invokestatic 26, 3) := by decide +kernel
theorem dX7_set_27 : decode cX7_set 27 = .ok (.ifCond .ne 6, 3) := by decide +kernel
theorem dX7_set_30 : decode cX7_set 30 = .ok (.ldc 109, 2) := by decide +kernel
theorem dX7_set_32 : decode cX7_set 32 = .ok (.ireturn, 1) := by decide +kernel
theorem dX7_set_33 : decode cX7_set 33 = .ok (.aload_n 0, 1) := by decide +kernel
theorem dX7_set_34 : decode cX7_set 34 = .ok (.invokevirtual 85, 3) := by decide +kernel
theorem dX7_set_37 : decode cX7_set 37 = .ok (.aload_n 0, 1) := by decide +kernel
theorem dX7_set_38 : decode cX7_set 38 = .ok (.getfield 7, 3) := by decide +kernel
theorem dX7_set_41 : decode cX7_set 41 = .ok (.sipush 242, 3) := by decide +kernel
theorem dX7_set_44 : decode cX7_set 44 = .ok (.iload_n 1, 1) := by decide +kernel
theorem dX7_set_45 : decode cX7_set 45 = .ok (.iadd, 1) := by decide +kernel
theorem dX7_set_46 : decode cX7_set 46 = .ok (.iaload, 1) := by decide +kernel
theorem dX7_set_47 : decode cX7_set 47 = .ok (.istore_n 3, 1) := by decide +kernel
theorem dX7_set_48 : decode cX7_set 48 = .ok (.aload_n 0, 1) := by decide +kernel
theorem dX7_set_49 : decode cX7_set 49 = .ok (.getfield 7, 3) := by decide +kernel
theorem dX7_set_52 : decode cX7_set 52 = .ok (.sipush 242, 3) := by decide +kernel
theorem dX7_set_55 : decode cX7_set 55 = .ok (.iload_n 1, 1) := by decide +kernel
theorem dX7_set_56 : decode cX7_set 56 = .ok (.iadd, 1) := by decide +kernel
theorem dX7_set_57 : decode cX7_set 57 = .ok (.iload_n 2, 1) := by decide +kernel
theorem dX7_set_58 : decode cX7_set 58 = .ok (.iastore, 1) := by decide +kernel
theorem dX7_set_59 : decode cX7_set 59 = .ok (.iload_n 3, 1) := by decide +kernel
theorem dX7_set_60 : decode cX7_set 60 = .ok (.ireturn, 1) := by decide +kernel
set_option maxRecDepth 20000 in
theorem ggX7_setBreakpoint_X7_isPlace : GoodIn wsX7_setBreakpoint wsX7_isPlace := goodIn_r _ [6, 7, 8, 5, 9] (by decide +kernel) (by decide +kernel)
set_option maxRecDepth 20000 in
theorem gX7_setBreakpoint_X7_isPlace : GoodIn wsX7_setBreakpoint (va_wsS RX7 72 yX7_isPlace wsX7_isPlace) := goodIn_app (goodIn_of _ (by decide +kernel)) ggX7_setBreakpoint_X7_isPlace
set_option maxRecDepth 20000 in
theorem ggX7_setBreakpoint_X7_records : GoodIn wsX7_setBreakpoint wsX7_records := goodIn_r _ [13, 14, 15, 2, 16, 17, 18, 19, 20, 21, 22, 23, 24, 25, 26] (by decide +kernel) (by decide +kernel)
set_option maxRecDepth 20000 in
theorem gX7_setBreakpoint_X7_records : GoodIn wsX7_setBreakpoint (wsV RX7 85 RX7 yX7_records wsX7_records) := goodIn_app (goodIn_of _ (by decide +kernel)) ggX7_setBreakpoint_X7_records
theorem dX7_setBreakpoint_0 : decode cX7_setBreakpoint 0 = .ok (.iload_n 1, 1) := by decide +kernel
theorem dX7_setBreakpoint_1 : decode cX7_setBreakpoint 1 = .ok (.invokestatic 72, 3) := by decide +kernel
theorem dX7_setBreakpoint_4 : decode cX7_setBreakpoint 4 = .ok (.ifCond .ne 6, 3) := by decide +kernel
theorem dX7_setBreakpoint_7 : decode cX7_setBreakpoint 7 = .ok (.ldc 75, 2) := by decide +kernel
theorem dX7_setBreakpoint_9 : decode cX7_setBreakpoint 9 = .ok (.ireturn, 1) := by decide +kernel
theorem dX7_setBreakpoint_10 : decode cX7_setBreakpoint 10 = .ok (.aload_n 0, 1) := by decide +kernel
theorem dX7_setBreakpoint_11 : decode cX7_setBreakpoint 11 = .ok (.invokevirtual 85, 3) := by decide +kernel
theorem dX7_setBreakpoint_14 : decode cX7_setBreakpoint 14 = .ok (.aload_n 0, 1) := by decide +kernel
theorem dX7_setBreakpoint_15 : decode cX7_setBreakpoint 15 = .ok (.getfield 7, 3) := by decide +kernel
theorem dX7_setBreakpoint_18 : decode cX7_setBreakpoint 18 = .ok (.sipush 244, 3) := by decide +kernel
theorem dX7_setBreakpoint_21 : decode cX7_setBreakpoint 21 = .ok (.iload_n 1, 1) := by decide +kernel
theorem dX7_setBreakpoint_22 : decode cX7_setBreakpoint 22 = .ok (.iadd, 1) := by decide +kernel
theorem dX7_setBreakpoint_23 : decode cX7_setBreakpoint 23 = .ok (.iload_n 2, 1) := by decide +kernel
theorem dX7_setBreakpoint_24 : decode cX7_setBreakpoint 24 = .ok (.ifCond .eq 7, 3) := by decide +kernel
theorem dX7_setBreakpoint_27 : decode cX7_setBreakpoint 27 = .ok (.iconst 1, 1) := by decide +kernel
theorem dX7_setBreakpoint_28 : decode cX7_setBreakpoint 28 = .ok (.goto 4, 3) := by decide +kernel
theorem dX7_setBreakpoint_31 : decode cX7_setBreakpoint 31 = .ok (.iconst 0, 1) := by decide +kernel
theorem dX7_setBreakpoint_32 : decode cX7_setBreakpoint 32 = .ok (.iastore, 1) := by decide +kernel
theorem dX7_setBreakpoint_33 : decode cX7_setBreakpoint 33 = .ok (.iconst 0, 1) := by decide +kernel
theorem dX7_setBreakpoint_34 : decode cX7_setBreakpoint 34 = .ok (.istore_n 3, 1) := by decide +kernel
theorem dX7_setBreakpoint_35 : decode cX7_setBreakpoint 35 = .ok (.iconst 0, 1) := by decide +kernel
theorem dX7_setBreakpoint_36 : decode cX7_setBreakpoint 36 = .ok (.istore 4, 2) := by decide +kernel
theorem dX7_setBreakpoint_38 : decode cX7_setBreakpoint 38 = .ok (.iload 4, 2) := by decide +kernel
theorem dX7_setBreakpoint_40 : decode cX7_setBreakpoint 40 = .ok (.bipush 48, 2) := by decide +kernel
theorem dX7_setBreakpoint_42 : decode cX7_setBreakpoint 42 = .ok (.if_icmp .ge 23, 3) := by decide +kernel
theorem dX7_setBreakpoint_45 : decode cX7_setBreakpoint 45 = .ok (.iload_n 3, 1) := by decide +kernel
theorem dX7_setBreakpoint_46 : decode cX7_setBreakpoint 46 = .ok (.aload_n 0, 1) := by decide +kernel
theorem dX7_setBreakpoint_47 : decode cX7_setBreakpoint 47 = .ok (.getfield 7, 3) := by decide +kernel
theorem dX7_setBreakpoint_50 : decode cX7_setBreakpoint 50 = .ok (.sipush 244, 3) := by decide +kernel
theorem dX7_setBreakpoint_53 : decode cX7_setBreakpoint 53 = .ok (.iload 4, 2) := by decide +kernel
theorem dX7_setBreakpoint_55 : decode cX7_setBreakpoint 55 = .ok (.iadd, 1) := by decide +kernel
theorem dX7_setBreakpoint_56 : decode cX7_setBreakpoint 56 = .ok (.iaload, 1) := by decide +kernel
theorem dX7_setBreakpoint_57 : decode cX7_setBreakpoint 57 = .ok (.iadd, 1) := by decide +kernel
theorem dX7_setBreakpoint_58 : decode cX7_setBreakpoint 58 = .ok (.istore_n 3, 1) := by decide +kernel
theorem dX7_setBreakpoint_59 : decode cX7_setBreakpoint 59 = .ok (.iinc 4 1, 3) := by decide +kernel
theorem dX7_setBreakpoint_62 : decode cX7_setBreakpoint 62 = .ok (.goto (-24), 3) := by decide +kernel
theorem dX7_setBreakpoint_65 : decode cX7_setBreakpoint 65 = .ok (.iload_n 3, 1) := by decide +kernel
theorem dX7_setBreakpoint_66 : decode cX7_setBreakpoint 66 = .ok (.ireturn, 1) := by decide +kernel
set_option maxRecDepth 20000 in
theorem ggX7_isStopped_X7_putAside : GoodIn wsX7_isStopped wsX7_putAside := goodIn_r _ [6, 7, 1, 35, 36, 37, 38, 39, 40, 41, 42, 43, 44, 45] (by decide +kernel) (by decide +kernel)
set_option maxRecDepth 20000 in
theorem gX7_isStopped_X7_putAside : GoodIn wsX7_isStopped (wsV RX7 110 RX7 yX7_putAside wsX7_putAside) := goodIn_app (goodIn_of _ (by decide +kernel)) ggX7_isStopped_X7_putAside
set_option maxRecDepth 20000 in
theorem ggX7_isStopped_X7_prepares : GoodIn wsX7_isStopped wsX7_prepares := goodIn_r _ [11, 1, 12, 13, 5, 14, 15, 16, 17, 18, 19, 20, 21, 22, 35, 36, 37, 38, 39, 40, 41, 42, 43, 44, 45] (by decide +kernel) (by decide +kernel)
set_option maxRecDepth 20000 in
theorem gX7_isStopped_X7_prepares : GoodIn wsX7_isStopped (wsV RX7 61 RX7 yX7_prepares wsX7_prepares) := goodIn_app (goodIn_of _ (by decide +kernel)) ggX7_isStopped_X7_prepares
set_option maxRecDepth 20000 in
theorem ggX7_isStopped_X7_issuing : GoodIn wsX7_isStopped wsX7_issuing := goodIn_r _ [26, 1, 27, 28, 29, 5, 30, 12, 13, 14, 35, 36, 37, 38, 39, 40, 41, 42, 43, 44, 45] (by decide +kernel) (by decide +kernel)
set_option maxRecDepth 20000 in
theorem gX7_isStopped_X7_issuing : GoodIn wsX7_isStopped (wsV RX7 64 RX7 yX7_issuing wsX7_issuing) := goodIn_app (goodIn_of _ (by decide +kernel)) ggX7_isStopped_X7_issuing
set_option maxRecDepth 20000 in
theorem ggX7_isStopped_X7_at : GoodIn wsX7_isStopped wsX7_at := goodIn_r _ [14] (by decide +kernel) (by decide +kernel)
set_option maxRecDepth 20000 in
theorem gX7_isStopped_X7_at : GoodIn wsX7_isStopped (va_wsS RX7 22 yX7_at wsX7_at) := goodIn_app (goodIn_of _ (by decide +kernel)) ggX7_isStopped_X7_at
set_option maxRecDepth 20000 in
theorem ggX7_isStopped_X7_putBack : GoodIn wsX7_isStopped wsX7_putBack := goodIn_r _ [34, 1, 7, 35, 36, 37, 38, 39, 40, 41, 42, 43, 44, 45] (by decide +kernel) (by decide +kernel)
set_option maxRecDepth 20000 in
theorem gX7_isStopped_X7_putBack : GoodIn wsX7_isStopped (wsV RX7 113 RX7 yX7_putBack wsX7_putBack) := goodIn_app (goodIn_of _ (by decide +kernel)) ggX7_isStopped_X7_putBack
theorem dX7_isStopped_0 : decode cX7_isStopped 0 = .ok (.aload_n 0, 1) := by decide +kernel
theorem dX7_isStopped_1 : decode cX7_isStopped 1 = .ok (.invokevirtual 110, 3) := by decide +kernel
theorem dX7_isStopped_4 : decode cX7_isStopped 4 = .ok (.aload_n 0, 1) := by decide +kernel
theorem dX7_isStopped_5 : decode cX7_isStopped 5 = .ok (.invokevirtual 61, 3) := by decide +kernel
theorem dX7_isStopped_8 : decode cX7_isStopped 8 = .ok (.aload_n 0, 1) := by decide +kernel
theorem dX7_isStopped_9 : decode cX7_isStopped 9 = .ok (.invokevirtual 64, 3) := by decide +kernel
theorem dX7_isStopped_12 : decode cX7_isStopped 12 = .ok (.istore_n 1, 1) := by decide +kernel
theorem dX7_isStopped_13 : decode cX7_isStopped 13 = .ok (.iload_n 1, 1) := by decide +kernel
theorem dX7_isStopped_14 : decode cX7_isStopped 14 = .ok (.iconst (-1), 1) := by decide +kernel
theorem dX7_isStopped_15 : decode cX7_isStopped 15 = .ok (.if_icmp .ne 8, 3) := by decide +kernel
theorem dX7_isStopped_18 : decode cX7_isStopped 18 = .ok (.bipush 48, 2) := by decide +kernel
theorem dX7_isStopped_20 : decode cX7_isStopped 20 = .ok (.goto 13, 3) := by decide +kernel
theorem dX7_isStopped_23 : decode cX7_isStopped 23 = .ok (.aload_n 0, 1) := by decide +kernel
theorem dX7_isStopped_24 : decode cX7_isStopped 24 = .ok (.getfield 7, 3) := by decide +kernel
theorem dX7_isStopped_27 : decode cX7_isStopped 27 = .ok (.iload_n 1, 1) := by decide +kernel
theorem dX7_isStopped_28 : decode cX7_isStopped 28 = .ok (.iconst 1, 1) := by decide +kernel
theorem dX7_isStopped_29 : decode cX7_isStopped 29 = .ok (.invokestatic 22, 3) := by decide +kernel
theorem dX7_isStopped_32 : decode cX7_isStopped 32 = .ok (.iaload, 1) := by decide +kernel
theorem dX7_isStopped_33 : decode cX7_isStopped 33 = .ok (.istore_n 2, 1) := by decide +kernel
theorem dX7_isStopped_34 : decode cX7_isStopped 34 = .ok (.aload_n 0, 1) := by decide +kernel
theorem dX7_isStopped_35 : decode cX7_isStopped 35 = .ok (.invokevirtual 113, 3) := by decide +kernel
theorem dX7_isStopped_38 : decode cX7_isStopped 38 = .ok (.iload_n 2, 1) := by decide +kernel
theorem dX7_isStopped_39 : decode cX7_isStopped 39 = .ok (.bipush 48, 2) := by decide +kernel
theorem dX7_isStopped_41 : decode cX7_isStopped 41 = .ok (.if_icmp .ge 21, 3) := by decide +kernel
theorem dX7_isStopped_44 : decode cX7_isStopped 44 = .ok (.aload_n 0, 1) := by decide +kernel
theorem dX7_isStopped_45 : decode cX7_isStopped 45 = .ok (.getfield 7, 3) := by decide +kernel
theorem dX7_isStopped_48 : decode cX7_isStopped 48 = .ok (.sipush 244, 3) := by decide +kernel
theorem dX7_isStopped_51 : decode cX7_isStopped 51 = .ok (.iload_n 2, 1) := by decide +kernel
theorem dX7_isStopped_52 : decode cX7_isStopped 52 = .ok (.iadd, 1) := by decide +kernel
theorem dX7_isStopped_53 : decode cX7_isStopped 53 = .ok (.iaload, 1) := by decide +kernel
theorem dX7_isStopped_54 : decode cX7_isStopped 54 = .ok (.iconst 1, 1) := by decide +kernel
theorem dX7_isStopped_55 : decode cX7_isStopped 55 = .ok (.if_icmp .ne 7, 3) := by decide +kernel
theorem dX7_isStopped_58 : decode cX7_isStopped 58 = .ok (.iconst 1, 1) := by decide +kernel
theorem dX7_isStopped_59 : decode cX7_isStopped 59 = .ok (.goto 4, 3) := by decide +kernel
theorem dX7_isStopped_62 : decode cX7_isStopped 62 = .ok (.iconst 0, 1) := by decide +kernel
theorem dX7_isStopped_63 : decode cX7_isStopped 63 = .ok (.ireturn, 1) := by decide +kernel
set_option maxRecDepth 20000 in
theorem ggX7_run_X7_in : GoodIn wsX7_run wsX7_in := goodIn_r _ [5] (by decide +kernel) (by decide +kernel)
set_option maxRecDepth 20000 in
theorem gX7_run_X7_in : GoodIn wsX7_run (va_wsS RX7 26 yX7_in wsX7_in) := goodIn_app (goodIn_of _ (by decide +kernel)) ggX7_run_X7_in
set_option maxRecDepth 20000 in
theorem ggX7_run_X7_records : GoodIn wsX7_run wsX7_records := goodIn_r _ [9, 10, 11, 12, 77, 78, 79, 80, 81, 82, 83, 84, 85, 86, 87] (by decide +kernel) (by decide +kernel)
set_option maxRecDepth 20000 in
theorem gX7_run_X7_records : GoodIn wsX7_run (wsV RX7 85 RX7 yX7_records wsX7_records) := goodIn_app (goodIn_of _ (by decide +kernel)) ggX7_run_X7_records
set_option maxRecDepth 20000 in
theorem ggX7_run_X7_isOver : GoodIn wsX7_run wsX7_isOver := goodIn_r _ [16, 17, 18, 19, 4, 20, 12, 21, 22, 23, 77, 78, 79, 80, 81, 82, 83, 84, 85, 86, 87] (by decide +kernel) (by decide +kernel)
set_option maxRecDepth 20000 in
theorem gX7_run_X7_isOver : GoodIn wsX7_run (wsV RX7 116 RX7 yX7_isOver wsX7_isOver) := goodIn_app (goodIn_of _ (by decide +kernel)) ggX7_run_X7_isOver
set_option maxRecDepth 20000 in
theorem ggX7_run_X7_isStopped : GoodIn wsX7_run wsX7_isStopped := goodIn_r _ [27, 12, 28, 29, 30, 4, 31, 32, 33, 34, 35, 36, 21, 22, 23, 37, 38, 39, 40, 17, 18, 19, 20, 41, 42, 43, 44, 45, 46, 47, 48, 49, 50, 51, 52, 77, 78, 79, 80, 81, 82, 83, 84, 85, 86, 87] (by decide +kernel) (by decide +kernel)
set_option maxRecDepth 20000 in
theorem gX7_run_X7_isStopped : GoodIn wsX7_run (wsV RX7 119 RX7 yX7_isStopped wsX7_isStopped) := goodIn_app (goodIn_of _ (by decide +kernel)) ggX7_run_X7_isStopped
set_option maxRecDepth 20000 in
theorem ggX7_run_X7_cycles : GoodIn wsX7_run wsX7_cycles := goodIn_r _ [56, 12, 33, 34, 35, 4, 36, 21, 22, 23, 37, 38, 39, 40, 17, 18, 19, 20, 41, 42, 43, 44, 45, 46, 47, 48, 57, 58, 59, 60, 61, 62, 63, 64, 65, 66, 67, 68, 2, 3, 5, 69, 70, 71, 72, 73, 74, 75, 76, 77, 78, 79, 80, 81, 82, 83, 84, 85, 86, 87] (by decide +kernel) (by decide +kernel)
set_option maxRecDepth 20000 in
theorem gX7_run_X7_cycles : GoodIn wsX7_run (wsV RX7 122 RX7 yX7_cycles wsX7_cycles) := goodIn_app (goodIn_of _ (by decide +kernel)) ggX7_run_X7_cycles
theorem dX7_run_0 : decode cX7_run 0 = .ok (.iload_n 1, 1) := by decide +kernel
theorem dX7_run_1 : decode cX7_run 1 = .ok (.iconst 1, 1) := by decide +kernel
theorem dX7_run_2 : decode cX7_run 2 = .ok (.sipush 200, 3) := by decide +kernel
theorem dX7_run_5 : decode cX7_run 5 = .ok (.invokestatic 26, 3) := by decide +kernel
theorem dX7_run_8 : decode cX7_run 8 = .ok (.ifCond .ne 6, 3) := by decide +kernel
theorem dX7_run_11 : decode cX7_run 11 = .ok (.ldc 109, 2) := by decide +kernel
theorem dX7_run_13 : decode cX7_run 13 = .ok (.ireturn, 1) := by decide +kernel
theorem dX7_run_14 : decode cX7_run 14 = .ok (.aload_n 0, 1) := by decide +kernel
theorem dX7_run_15 : decode cX7_run 15 = .ok (.invokevirtual 85, 3) := by decide +kernel
theorem dX7_run_18 : decode cX7_run 18 = .ok (.iconst 0, 1) := by decide +kernel
theorem dX7_run_19 : decode cX7_run 19 = .ok (.istore_n 2, 1) := by decide +kernel
theorem dX7_run_20 : decode cX7_run 20 = .ok (.iload_n 2, 1) := by decide +kernel
theorem dX7_run_21 : decode cX7_run 21 = .ok (.iload_n 1, 1) := by decide +kernel
theorem dX7_run_22 : decode cX7_run 22 = .ok (.if_icmp .ge 31, 3) := by decide +kernel
theorem dX7_run_25 : decode cX7_run 25 = .ok (.aload_n 0, 1) := by decide +kernel
theorem dX7_run_26 : decode cX7_run 26 = .ok (.invokevirtual 116, 3) := by decide +kernel
theorem dX7_run_29 : decode cX7_run 29 = .ok (.ifCond .ne 24, 3) := by decide +kernel
theorem dX7_run_32 : decode cX7_run 32 = .ok (.iload_n 2, 1) := by decide +kernel
theorem dX7_run_33 : decode cX7_run 33 = .ok (.ifCond .eq 10, 3) := by decide +kernel
theorem dX7_run_36 : decode cX7_run 36 = .ok (.aload_n 0, 1) := by decide +kernel
theorem dX7_run_37 : decode cX7_run 37 = .ok (.invokevirtual 119, 3) := by decide +kernel
theorem dX7_run_40 : decode cX7_run 40 = .ok (.ifCond .ne 13, 3) := by decide +kernel
theorem dX7_run_43 : decode cX7_run 43 = .ok (.aload_n 0, 1) := by decide +kernel
theorem dX7_run_44 : decode cX7_run 44 = .ok (.invokevirtual 122, 3) := by decide +kernel
theorem dX7_run_47 : decode cX7_run 47 = .ok (.iinc 2 1, 3) := by decide +kernel
theorem dX7_run_50 : decode cX7_run 50 = .ok (.goto (-30), 3) := by decide +kernel
theorem dX7_run_53 : decode cX7_run 53 = .ok (.iload_n 2, 1) := by decide +kernel
theorem dX7_run_54 : decode cX7_run 54 = .ok (.ireturn, 1) := by decide +kernel
set_option maxRecDepth 20000 in
theorem ggX7_append_X7_in : GoodIn wsX7_append wsX7_in := goodIn_r _ [8] (by decide +kernel) (by decide +kernel)
set_option maxRecDepth 20000 in
theorem gX7_append_X7_in : GoodIn wsX7_append (va_wsS RX7 26 yX7_in wsX7_in) := goodIn_app (goodIn_of _ (by decide +kernel)) ggX7_append_X7_in
theorem dX7_append_0 : decode cX7_append 0 = .ok (.iload_n 1, 1) := by decide +kernel
theorem dX7_append_1 : decode cX7_append 1 = .ok (.bipush 32, 2) := by decide +kernel
theorem dX7_append_3 : decode cX7_append 3 = .ok (.bipush 126, 2) := by decide +kernel
theorem dX7_append_5 : decode cX7_append 5 = .ok (.invokestatic 26, 3) := by decide +kernel
theorem dX7_append_8 : decode cX7_append 8 = .ok (.ifCond .ne 6, 3) := by decide +kernel
theorem dX7_append_11 : decode cX7_append 11 = .ok (.ldc 109, 2) := by decide +kernel
theorem dX7_append_13 : decode cX7_append 13 = .ok (.ireturn, 1) := by decide +kernel
theorem dX7_append_14 : decode cX7_append 14 = .ok (.aload_n 0, 1) := by decide +kernel
theorem dX7_append_15 : decode cX7_append 15 = .ok (.getfield 81, 3) := by decide +kernel
theorem dX7_append_18 : decode cX7_append 18 = .ok (.bipush 100, 2) := by decide +kernel
theorem dX7_append_20 : decode cX7_append 20 = .ok (.if_icmp .ne 6, 3) := by decide +kernel
theorem dX7_append_23 : decode cX7_append 23 = .ok (.ldc 84, 2) := by decide +kernel
theorem dX7_append_25 : decode cX7_append 25 = .ok (.ireturn, 1) := by decide +kernel
theorem dX7_append_26 : decode cX7_append 26 = .ok (.aload_n 0, 1) := by decide +kernel
theorem dX7_append_27 : decode cX7_append 27 = .ok (.getfield 19, 3) := by decide +kernel
theorem dX7_append_30 : decode cX7_append 30 = .ok (.aload_n 0, 1) := by decide +kernel
theorem dX7_append_31 : decode cX7_append 31 = .ok (.getfield 81, 3) := by decide +kernel
theorem dX7_append_34 : decode cX7_append 34 = .ok (.iload_n 1, 1) := by decide +kernel
theorem dX7_append_35 : decode cX7_append 35 = .ok (.iastore, 1) := by decide +kernel
theorem dX7_append_36 : decode cX7_append 36 = .ok (.aload_n 0, 1) := by decide +kernel
theorem dX7_append_37 : decode cX7_append 37 = .ok (.dup, 1) := by decide +kernel
theorem dX7_append_38 : decode cX7_append 38 = .ok (.getfield 81, 3) := by decide +kernel
theorem dX7_append_41 : decode cX7_append 41 = .ok (.iconst 1, 1) := by decide +kernel
theorem dX7_append_42 : decode cX7_append 42 = .ok (.iadd, 1) := by decide +kernel
theorem dX7_append_43 : decode cX7_append 43 = .ok (.putfield 81, 3) := by decide +kernel
theorem dX7_append_46 : decode cX7_append 46 = .ok (.aload_n 0, 1) := by decide +kernel
theorem dX7_append_47 : decode cX7_append 47 = .ok (.getfield 81, 3) := by decide +kernel
theorem dX7_append_50 : decode cX7_append 50 = .ok (.ireturn, 1) := by decide +kernel
theorem dX7_clearText_0 : decode cX7_clearText 0 = .ok (.aload_n 0, 1) := by decide +kernel
theorem dX7_clearText_1 : decode cX7_clearText 1 = .ok (.getfield 81, 3) := by decide +kernel
theorem dX7_clearText_4 : decode cX7_clearText 4 = .ok (.istore_n 1, 1) := by decide +kernel
theorem dX7_clearText_5 : decode cX7_clearText 5 = .ok (.aload_n 0, 1) := by decide +kernel
theorem dX7_clearText_6 : decode cX7_clearText 6 = .ok (.iconst 0, 1) := by decide +kernel
theorem dX7_clearText_7 : decode cX7_clearText 7 = .ok (.putfield 81, 3) := by decide +kernel
theorem dX7_clearText_10 : decode cX7_clearText 10 = .ok (.iload_n 1, 1) := by decide +kernel
theorem dX7_clearText_11 : decode cX7_clearText 11 = .ok (.ireturn, 1) := by decide +kernel
theorem dX7_next_0 : decode cX7_next 0 = .ok (.aload_n 0, 1) := by decide +kernel
theorem dX7_next_1 : decode cX7_next 1 = .ok (.getfield 88, 3) := by decide +kernel
theorem dX7_next_4 : decode cX7_next 4 = .ok (.aload_n 0, 1) := by decide +kernel
theorem dX7_next_5 : decode cX7_next 5 = .ok (.getfield 81, 3) := by decide +kernel
theorem dX7_next_8 : decode cX7_next 8 = .ok (.if_icmp .ge 15, 3) := by decide +kernel
theorem dX7_next_11 : decode cX7_next 11 = .ok (.aload_n 0, 1) := by decide +kernel
theorem dX7_next_12 : decode cX7_next 12 = .ok (.getfield 19, 3) := by decide +kernel
theorem dX7_next_15 : decode cX7_next 15 = .ok (.aload_n 0, 1) := by decide +kernel
theorem dX7_next_16 : decode cX7_next 16 = .ok (.getfield 88, 3) := by decide +kernel
theorem dX7_next_19 : decode cX7_next 19 = .ok (.iaload, 1) := by decide +kernel
theorem dX7_next_20 : decode cX7_next 20 = .ok (.goto 4, 3) := by decide +kernel
theorem dX7_next_23 : decode cX7_next 23 = .ok (.iconst 0, 1) := by decide +kernel
theorem dX7_next_24 : decode cX7_next 24 = .ok (.ireturn, 1) := by decide +kernel
set_option maxRecDepth 20000 in
theorem ggX7_sign_X7_next : GoodIn wsX7_sign wsX7_next := goodIn_r _ [7, 2, 8, 9, 10, 11, 12, 13, 14, 15, 16, 17, 18, 19, 20] (by decide +kernel) (by decide +kernel)
set_option maxRecDepth 20000 in
theorem gX7_sign_X7_next : GoodIn wsX7_sign (wsV RX7 129 RX7 yX7_next wsX7_next) := goodIn_app (goodIn_of _ (by decide +kernel)) ggX7_sign_X7_next
theorem dX7_sign_0 : decode cX7_sign 0 = .ok (.aload_n 0, 1) := by decide +kernel
theorem dX7_sign_1 : decode cX7_sign 1 = .ok (.aload_n 0, 1) := by decide +kernel
theorem dX7_sign_2 : decode cX7_sign 2 = .ok (.getfield 125, 3) := by decide +kernel
theorem dX7_sign_5 : decode cX7_sign 5 = .ok (.ifCond .ne 11, 3) := by decide +kernel
theorem dX7_sign_8 : decode cX7_sign 8 = .ok (.aload_n 0, 1) := by decide +kernel
theorem dX7_sign_9 : decode cX7_sign 9 = .ok (.invokevirtual 129, 3) := by decide +kernel
theorem dX7_sign_12 : decode cX7_sign 12 = .ok (.iload_n 1, 1) := by decide +kernel
theorem dX7_sign_13 : decode cX7_sign 13 = .ok (.if_icmp .eq 7, 3) := by decide +kernel
theorem dX7_sign_16 : decode cX7_sign 16 = .ok (.iconst 1, 1) := by decide +kernel
theorem dX7_sign_17 : decode cX7_sign 17 = .ok (.goto 4, 3) := by decide +kernel
theorem dX7_sign_20 : decode cX7_sign 20 = .ok (.iconst 0, 1) := by decide +kernel
theorem dX7_sign_21 : decode cX7_sign 21 = .ok (.putfield 125, 3) := by decide +kernel
theorem dX7_sign_24 : decode cX7_sign 24 = .ok (.aload_n 0, 1) := by decide +kernel
theorem dX7_sign_25 : decode cX7_sign 25 = .ok (.dup, 1) := by decide +kernel
theorem dX7_sign_26 : decode cX7_sign 26 = .ok (.getfield 88, 3) := by decide +kernel
theorem dX7_sign_29 : decode cX7_sign 29 = .ok (.aload_n 0, 1) := by decide +kernel
theorem dX7_sign_30 : decode cX7_sign 30 = .ok (.getfield 125, 3) := by decide +kernel
theorem dX7_sign_33 : decode cX7_sign 33 = .ok (.ifCond .eq 7, 3) := by decide +kernel
theorem dX7_sign_36 : decode cX7_sign 36 = .ok (.iconst 0, 1) := by decide +kernel
theorem dX7_sign_37 : decode cX7_sign 37 = .ok (.goto 4, 3) := by decide +kernel
theorem dX7_sign_40 : decode cX7_sign 40 = .ok (.iconst 1, 1) := by decide +kernel
theorem dX7_sign_41 : decode cX7_sign 41 = .ok (.iadd, 1) := by decide +kernel
theorem dX7_sign_42 : decode cX7_sign 42 = .ok (.putfield 88, 3) := by decide +kernel
theorem dX7_sign_45 : decode cX7_sign 45 = .ok (.return_, 1) := by decide +kernel
set_option maxRecDepth 20000 in
theorem ggX7_digit_X7_next : GoodIn wsX7_digit wsX7_next := goodIn_r _ [7, 2, 8, 9, 13, 14, 15, 16, 17, 18, 19, 20, 21, 22, 23] (by decide +kernel) (by decide +kernel)
set_option maxRecDepth 20000 in
theorem gX7_digit_X7_next : GoodIn wsX7_digit (wsV RX7 129 RX7 yX7_next wsX7_next) := goodIn_app (goodIn_of _ (by decide +kernel)) ggX7_digit_X7_next
set_option maxRecDepth 20000 in
theorem ggX7_digit_X7_in : GoodIn wsX7_digit wsX7_in := goodIn_r _ [12] (by decide +kernel) (by decide +kernel)
set_option maxRecDepth 20000 in
theorem gX7_digit_X7_in : GoodIn wsX7_digit (va_wsS RX7 26 yX7_in wsX7_in) := goodIn_app (goodIn_of _ (by decide +kernel)) ggX7_digit_X7_in
theorem dX7_digit_0 : decode cX7_digit 0 = .ok (.aload_n 0, 1) := by decide +kernel
theorem dX7_digit_1 : decode cX7_digit 1 = .ok (.invokevirtual 129, 3) := by decide +kernel
theorem dX7_digit_4 : decode cX7_digit 4 = .ok (.bipush 48, 2) := by decide +kernel
theorem dX7_digit_6 : decode cX7_digit 6 = .ok (.isub, 1) := by decide +kernel
theorem dX7_digit_7 : decode cX7_digit 7 = .ok (.istore_n 3, 1) := by decide +kernel
theorem dX7_digit_8 : decode cX7_digit 8 = .ok (.aload_n 0, 1) := by decide +kernel
theorem dX7_digit_9 : decode cX7_digit 9 = .ok (.aload_n 0, 1) := by decide +kernel
theorem dX7_digit_10 : decode cX7_digit 10 = .ok (.getfield 125, 3) := by decide +kernel
theorem dX7_digit_13 : decode cX7_digit 13 = .ok (.ifCond .ne 12, 3) := by decide +kernel
theorem dX7_digit_16 : decode cX7_digit 16 = .ok (.iload_n 3, 1) := by decide +kernel
theorem dX7_digit_17 : decode cX7_digit 17 = .ok (.iload_n 1, 1) := by decide +kernel
theorem dX7_digit_18 : decode cX7_digit 18 = .ok (.iload_n 2, 1) := by decide +kernel
theorem dX7_digit_19 : decode cX7_digit 19 = .ok (.invokestatic 26, 3) := by decide +kernel
theorem dX7_digit_22 : decode cX7_digit 22 = .ok (.ifCond .ne 7, 3) := by decide +kernel
theorem dX7_digit_25 : decode cX7_digit 25 = .ok (.iconst 1, 1) := by decide +kernel
theorem dX7_digit_26 : decode cX7_digit 26 = .ok (.goto 4, 3) := by decide +kernel
theorem dX7_digit_29 : decode cX7_digit 29 = .ok (.iconst 0, 1) := by decide +kernel
theorem dX7_digit_30 : decode cX7_digit 30 = .ok (.putfield 125, 3) := by decide +kernel
theorem dX7_digit_33 : decode cX7_digit 33 = .ok (.aload_n 0, 1) := by decide +kernel
theorem dX7_digit_34 : decode cX7_digit 34 = .ok (.dup, 1) := by decide +kernel
theorem dX7_digit_35 : decode cX7_digit 35 = .ok (.getfield 88, 3) := by decide +kernel
theorem dX7_digit_38 : decode cX7_digit 38 = .ok (.aload_n 0, 1) := by decide +kernel
theorem dX7_digit_39 : decode cX7_digit 39 = .ok (.getfield 125, 3) := by decide +kernel
theorem dX7_digit_42 : decode cX7_digit 42 = .ok (.ifCond .eq 7, 3) := by decide +kernel
theorem dX7_digit_45 : decode cX7_digit 45 = .ok (.iconst 0, 1) := by decide +kernel
theorem dX7_digit_46 : decode cX7_digit 46 = .ok (.goto 4, 3) := by decide +kernel
theorem dX7_digit_49 : decode cX7_digit 49 = .ok (.iconst 1, 1) := by decide +kernel
theorem dX7_digit_50 : decode cX7_digit 50 = .ok (.iadd, 1) := by decide +kernel
theorem dX7_digit_51 : decode cX7_digit 51 = .ok (.putfield 88, 3) := by decide +kernel
theorem dX7_digit_54 : decode cX7_digit 54 = .ok (.iload_n 3, 1) := by decide +kernel
theorem dX7_digit_55 : decode cX7_digit 55 = .ok (.ireturn, 1) := by decide +kernel
set_option maxRecDepth 20000 in
theorem ggX7_upTo_X7_digit : GoodIn wsX7_upTo wsX7_digit := goodIn_r _ [7, 1, 2, 8, 9, 10, 6, 11, 12, 13, 14, 15, 16, 17, 18, 19, 20, 21, 22, 23, 24, 25, 26, 27] (by decide +kernel) (by decide +kernel)
set_option maxRecDepth 20000 in
theorem gX7_upTo_X7_digit : GoodIn wsX7_upTo (wsV RX7 132 RX7 yX7_digit wsX7_digit) := goodIn_app (goodIn_of _ (by decide +kernel)) ggX7_upTo_X7_digit
set_option maxRecDepth 20000 in
theorem ggX7_upTo_X7_next : GoodIn wsX7_upTo wsX7_next := goodIn_r _ [11, 2, 12, 13, 17, 18, 19, 20, 21, 22, 23, 24, 25, 26, 27] (by decide +kernel) (by decide +kernel)
set_option maxRecDepth 20000 in
theorem gX7_upTo_X7_next : GoodIn wsX7_upTo (wsV RX7 129 RX7 yX7_next wsX7_next) := goodIn_app (goodIn_of _ (by decide +kernel)) ggX7_upTo_X7_next
set_option maxRecDepth 20000 in
theorem ggX7_upTo_X7_in : GoodIn wsX7_upTo wsX7_in := goodIn_r _ [16] (by decide +kernel) (by decide +kernel)
set_option maxRecDepth 20000 in
theorem gX7_upTo_X7_in : GoodIn wsX7_upTo (va_wsS RX7 26 yX7_in wsX7_in) := goodIn_app (goodIn_of _ (by decide +kernel)) ggX7_upTo_X7_in
theorem dX7_upTo_0 : decode cX7_upTo 0 = .ok (.aload_n 0, 1) := by decide +kernel
theorem dX7_upTo_1 : decode cX7_upTo 1 = .ok (.iload_n 1, 1) := by decide +kernel
theorem dX7_upTo_2 : decode cX7_upTo 2 = .ok (.bipush 9, 2) := by decide +kernel
theorem dX7_upTo_4 : decode cX7_upTo 4 = .ok (.invokevirtual 132, 3) := by decide +kernel
theorem dX7_upTo_7 : decode cX7_upTo 7 = .ok (.istore_n 3, 1) := by decide +kernel
theorem dX7_upTo_8 : decode cX7_upTo 8 = .ok (.bipush 10, 2) := by decide +kernel
theorem dX7_upTo_10 : decode cX7_upTo 10 = .ok (.iload_n 3, 1) := by decide +kernel
theorem dX7_upTo_11 : decode cX7_upTo 11 = .ok (.imul, 1) := by decide +kernel
theorem dX7_upTo_12 : decode cX7_upTo 12 = .ok (.aload_n 0, 1) := by decide +kernel
theorem dX7_upTo_13 : decode cX7_upTo 13 = .ok (.invokevirtual 129, 3) := by decide +kernel
theorem dX7_upTo_16 : decode cX7_upTo 16 = .ok (.iadd, 1) := by decide +kernel
theorem dX7_upTo_17 : decode cX7_upTo 17 = .ok (.bipush 48, 2) := by decide +kernel
theorem dX7_upTo_19 : decode cX7_upTo 19 = .ok (.isub, 1) := by decide +kernel
theorem dX7_upTo_20 : decode cX7_upTo 20 = .ok (.istore 4, 2) := by decide +kernel
theorem dX7_upTo_22 : decode cX7_upTo 22 = .ok (.aload_n 0, 1) := by decide +kernel
theorem dX7_upTo_23 : decode cX7_upTo 23 = .ok (.getfield 125, 3) := by decide +kernel
theorem dX7_upTo_26 : decode cX7_upTo 26 = .ok (.ifCond .ne 40, 3) := by decide +kernel
theorem dX7_upTo_29 : decode cX7_upTo 29 = .ok (.iload_n 3, 1) := by decide +kernel
theorem dX7_upTo_30 : decode cX7_upTo 30 = .ok (.ifCond .le 36, 3) := by decide +kernel
theorem dX7_upTo_33 : decode cX7_upTo 33 = .ok (.aload_n 0, 1) := by decide +kernel
theorem dX7_upTo_34 : decode cX7_upTo 34 = .ok (.invokevirtual 129, 3) := by decide +kernel
theorem dX7_upTo_37 : decode cX7_upTo 37 = .ok (.bipush 48, 2) := by decide +kernel
theorem dX7_upTo_39 : decode cX7_upTo 39 = .ok (.bipush 57, 2) := by decide +kernel
theorem dX7_upTo_41 : decode cX7_upTo 41 = .ok (.invokestatic 26, 3) := by decide +kernel
theorem dX7_upTo_44 : decode cX7_upTo 44 = .ok (.ifCond .eq 22, 3) := by decide +kernel
theorem dX7_upTo_47 : decode cX7_upTo 47 = .ok (.iload 4, 2) := by decide +kernel
theorem dX7_upTo_49 : decode cX7_upTo 49 = .ok (.iload_n 2, 1) := by decide +kernel
theorem dX7_upTo_50 : decode cX7_upTo 50 = .ok (.if_icmp .gt 16, 3) := by decide +kernel
theorem dX7_upTo_53 : decode cX7_upTo 53 = .ok (.aload_n 0, 1) := by decide +kernel
theorem dX7_upTo_54 : decode cX7_upTo 54 = .ok (.dup, 1) := by decide +kernel
theorem dX7_upTo_55 : decode cX7_upTo 55 = .ok (.getfield 88, 3) := by decide +kernel
theorem dX7_upTo_58 : decode cX7_upTo 58 = .ok (.iconst 1, 1) := by decide +kernel
theorem dX7_upTo_59 : decode cX7_upTo 59 = .ok (.iadd, 1) := by decide +kernel
theorem dX7_upTo_60 : decode cX7_upTo 60 = .ok (.putfield 88, 3) := by decide +kernel
theorem dX7_upTo_63 : decode cX7_upTo 63 = .ok (.iload 4, 2) := by decide +kernel
theorem dX7_upTo_65 : decode cX7_upTo 65 = .ok (.ireturn, 1) := by decide +kernel
theorem dX7_upTo_66 : decode cX7_upTo 66 = .ok (.iload_n 3, 1) := by decide +kernel
theorem dX7_upTo_67 : decode cX7_upTo 67 = .ok (.ireturn, 1) := by decide +kernel
set_option maxRecDepth 20000 in
theorem ggX7_number_X7_next : GoodIn wsX7_number wsX7_next := goodIn_r _ [7, 2, 8, 9, 21, 22, 23, 24, 25, 26, 27, 28, 29, 30, 31] (by decide +kernel) (by decide +kernel)
set_option maxRecDepth 20000 in
theorem gX7_number_X7_next : GoodIn wsX7_number (wsV RX7 129 RX7 yX7_next wsX7_next) := goodIn_app (goodIn_of _ (by decide +kernel)) ggX7_number_X7_next
set_option maxRecDepth 20000 in
theorem ggX7_number_X7_upTo : GoodIn wsX7_number wsX7_upTo := goodIn_r _ [13, 1, 2, 14, 15, 16, 6, 17, 3, 4, 5, 7, 8, 9, 18, 19, 20, 21, 22, 23, 24, 25, 26, 27, 28, 29, 30, 31] (by decide +kernel) (by decide +kernel)
set_option maxRecDepth 20000 in
theorem gX7_number_X7_upTo : GoodIn wsX7_number (wsV RX7 135 RX7 yX7_upTo wsX7_upTo) := goodIn_app (goodIn_of _ (by decide +kernel)) ggX7_number_X7_upTo
theorem dX7_number_0 : decode cX7_number 0 = .ok (.aload_n 0, 1) := by decide +kernel
theorem dX7_number_1 : decode cX7_number 1 = .ok (.getfield 125, 3) := by decide +kernel
theorem dX7_number_4 : decode cX7_number 4 = .ok (.ifCond .ne 31, 3) := by decide +kernel
theorem dX7_number_7 : decode cX7_number 7 = .ok (.aload_n 0, 1) := by decide +kernel
theorem dX7_number_8 : decode cX7_number 8 = .ok (.invokevirtual 129, 3) := by decide +kernel
theorem dX7_number_11 : decode cX7_number 11 = .ok (.bipush 45, 2) := by decide +kernel
theorem dX7_number_13 : decode cX7_number 13 = .ok (.if_icmp .ne 22, 3) := by decide +kernel
theorem dX7_number_16 : decode cX7_number 16 = .ok (.aload_n 0, 1) := by decide +kernel
theorem dX7_number_17 : decode cX7_number 17 = .ok (.dup, 1) := by decide +kernel
theorem dX7_number_18 : decode cX7_number 18 = .ok (.getfield 88, 3) := by decide +kernel
theorem dX7_number_21 : decode cX7_number 21 = .ok (.iconst 1, 1) := by decide +kernel
theorem dX7_number_22 : decode cX7_number 22 = .ok (.iadd, 1) := by decide +kernel
theorem dX7_number_23 : decode cX7_number 23 = .ok (.putfield 88, 3) := by decide +kernel
theorem dX7_number_26 : decode cX7_number 26 = .ok (.aload_n 0, 1) := by decide +kernel
theorem dX7_number_27 : decode cX7_number 27 = .ok (.iconst 1, 1) := by decide +kernel
theorem dX7_number_28 : decode cX7_number 28 = .ok (.bipush 99, 2) := by decide +kernel
theorem dX7_number_30 : decode cX7_number 30 = .ok (.invokevirtual 135, 3) := by decide +kernel
theorem dX7_number_33 : decode cX7_number 33 = .ok (.ineg, 1) := by decide +kernel
theorem dX7_number_34 : decode cX7_number 34 = .ok (.ireturn, 1) := by decide +kernel
theorem dX7_number_35 : decode cX7_number 35 = .ok (.aload_n 0, 1) := by decide +kernel
theorem dX7_number_36 : decode cX7_number 36 = .ok (.iconst 0, 1) := by decide +kernel
theorem dX7_number_37 : decode cX7_number 37 = .ok (.bipush 99, 2) := by decide +kernel
theorem dX7_number_39 : decode cX7_number 39 = .ok (.invokevirtual 135, 3) := by decide +kernel
theorem dX7_number_42 : decode cX7_number 42 = .ok (.ireturn, 1) := by decide +kernel
theorem dX7_operationOf_0 : decode cX7_operationOf 0 = .ok (.iload_n 0, 1) := by decide +kernel
theorem dX7_operationOf_1 : decode cX7_operationOf 1 = .ok (.tableswitch 149 97 122 #[121, 143, 149, 123, 149, 149, 149, 146, 149, 134, 149, 127, 125, 140, 149, 149, 149, 149, 119, 149, 149, 149, 129, 131, 149, 137], 119) := by decide +kernel
theorem dX7_operationOf_120 : decode cX7_operationOf 120 = .ok (.iconst 0, 1) := by decide +kernel
theorem dX7_operationOf_121 : decode cX7_operationOf 121 = .ok (.ireturn, 1) := by decide +kernel
theorem dX7_operationOf_122 : decode cX7_operationOf 122 = .ok (.iconst 1, 1) := by decide +kernel
theorem dX7_operationOf_123 : decode cX7_operationOf 123 = .ok (.ireturn, 1) := by decide +kernel
theorem dX7_operationOf_124 : decode cX7_operationOf 124 = .ok (.iconst 2, 1) := by decide +kernel
theorem dX7_operationOf_125 : decode cX7_operationOf 125 = .ok (.ireturn, 1) := by decide +kernel
theorem dX7_operationOf_126 : decode cX7_operationOf 126 = .ok (.iconst 3, 1) := by decide +kernel
theorem dX7_operationOf_127 : decode cX7_operationOf 127 = .ok (.ireturn, 1) := by decide +kernel
theorem dX7_operationOf_128 : decode cX7_operationOf 128 = .ok (.iconst 4, 1) := by decide +kernel
theorem dX7_operationOf_129 : decode cX7_operationOf 129 = .ok (.ireturn, 1) := by decide +kernel
theorem dX7_operationOf_130 : decode cX7_operationOf 130 = .ok (.iconst 5, 1) := by decide +kernel
theorem dX7_operationOf_131 : decode cX7_operationOf 131 = .ok (.ireturn, 1) := by decide +kernel
theorem dX7_operationOf_132 : decode cX7_operationOf 132 = .ok (.bipush 6, 2) := by decide +kernel
theorem dX7_operationOf_134 : decode cX7_operationOf 134 = .ok (.ireturn, 1) := by decide +kernel
theorem dX7_operationOf_135 : decode cX7_operationOf 135 = .ok (.bipush 7, 2) := by decide +kernel
theorem dX7_operationOf_137 : decode cX7_operationOf 137 = .ok (.ireturn, 1) := by decide +kernel
theorem dX7_operationOf_138 : decode cX7_operationOf 138 = .ok (.bipush 8, 2) := by decide +kernel
theorem dX7_operationOf_140 : decode cX7_operationOf 140 = .ok (.ireturn, 1) := by decide +kernel
theorem dX7_operationOf_141 : decode cX7_operationOf 141 = .ok (.bipush 9, 2) := by decide +kernel
theorem dX7_operationOf_143 : decode cX7_operationOf 143 = .ok (.ireturn, 1) := by decide +kernel
theorem dX7_operationOf_144 : decode cX7_operationOf 144 = .ok (.bipush 10, 2) := by decide +kernel
theorem dX7_operationOf_146 : decode cX7_operationOf 146 = .ok (.ireturn, 1) := by decide +kernel
theorem dX7_operationOf_147 : decode cX7_operationOf 147 = .ok (.bipush 11, 2) := by decide +kernel
theorem dX7_operationOf_149 : decode cX7_operationOf 149 = .ok (.ireturn, 1) := by decide +kernel
theorem dX7_operationOf_150 : decode cX7_operationOf 150 = .ok (.iconst (-1), 1) := by decide +kernel
theorem dX7_operationOf_151 : decode cX7_operationOf 151 = .ok (.ireturn, 1) := by decide +kernel
set_option maxRecDepth 20000 in
theorem ggX7_instruction_X7_next : GoodIn wsX7_instruction wsX7_next := goodIn_r _ [10, 5, 11, 12, 35, 36, 37, 38, 39, 40, 41, 42, 43, 44, 45] (by decide +kernel) (by decide +kernel)
set_option maxRecDepth 20000 in
theorem gX7_instruction_X7_next : GoodIn wsX7_instruction (wsV RX7 129 RX7 yX7_next wsX7_next) := goodIn_app (goodIn_of _ (by decide +kernel)) ggX7_instruction_X7_next
set_option maxRecDepth 20000 in
theorem ggX7_instruction_X7_operationOf : GoodIn wsX7_instruction wsX7_operationOf := goodIn_r _ [15] (by decide +kernel) (by decide +kernel)
set_option maxRecDepth 20000 in
theorem gX7_instruction_X7_operationOf : GoodIn wsX7_instruction (va_wsS RX7 138 yX7_operationOf wsX7_operationOf) := goodIn_app (goodIn_of _ (by decide +kernel)) ggX7_instruction_X7_operationOf
set_option maxRecDepth 20000 in
theorem ggX7_instruction_X7_upTo : GoodIn wsX7_instruction wsX7_upTo := goodIn_r _ [19, 4, 5, 20, 21, 22, 9, 23, 6, 7, 8, 10, 11, 12, 24, 25, 26, 35, 36, 37, 38, 39, 40, 41, 42, 43, 44, 45] (by decide +kernel) (by decide +kernel)
set_option maxRecDepth 20000 in
theorem gX7_instruction_X7_upTo : GoodIn wsX7_instruction (wsV RX7 135 RX7 yX7_upTo wsX7_upTo) := goodIn_app (goodIn_of _ (by decide +kernel)) ggX7_instruction_X7_upTo
set_option maxRecDepth 20000 in
theorem ggX7_instruction_X7_digit : GoodIn wsX7_instruction wsX7_digit := goodIn_r _ [23, 4, 5, 6, 7, 8, 9, 10, 11, 12, 24, 25, 26, 35, 36, 37, 38, 39, 40, 41, 42, 43, 44, 45] (by decide +kernel) (by decide +kernel)
set_option maxRecDepth 20000 in
theorem gX7_instruction_X7_digit : GoodIn wsX7_instruction (wsV RX7 132 RX7 yX7_digit wsX7_digit) := goodIn_app (goodIn_of _ (by decide +kernel)) ggX7_instruction_X7_digit
set_option maxRecDepth 20000 in
theorem ggX7_instruction_X7_sign : GoodIn wsX7_instruction wsX7_sign := goodIn_r _ [30, 4, 5, 6, 7, 8, 9, 10, 11, 12, 35, 36, 37, 38, 39, 40, 41, 42, 43, 44, 45] (by decide +kernel) (by decide +kernel)
set_option maxRecDepth 20000 in
theorem gX7_instruction_X7_sign : GoodIn wsX7_instruction (wsV RX7 141 RX7 yX7_sign wsX7_sign) := goodIn_app (goodIn_of _ (by decide +kernel)) ggX7_instruction_X7_sign
set_option maxRecDepth 20000 in
theorem ggX7_instruction_X7_number : GoodIn wsX7_instruction wsX7_number := goodIn_r _ [34, 4, 5, 6, 7, 8, 9, 10, 11, 12, 16, 17, 18, 19, 20, 21, 22, 23, 24, 25, 26, 35, 36, 37, 38, 39, 40, 41, 42, 43, 44, 45] (by decide +kernel) (by decide +kernel)
set_option maxRecDepth 20000 in
theorem gX7_instruction_X7_number : GoodIn wsX7_instruction (wsV RX7 144 RX7 yX7_number wsX7_number) := goodIn_app (goodIn_of _ (by decide +kernel)) ggX7_instruction_X7_number
theorem dX7_instruction_0 : decode cX7_instruction 0 = .ok (.aload_n 0, 1) := by decide +kernel
theorem dX7_instruction_1 : decode cX7_instruction 1 = .ok (.aload_n 0, 1) := by decide +kernel
theorem dX7_instruction_2 : decode cX7_instruction 2 = .ok (.invokevirtual 129, 3) := by decide +kernel
theorem dX7_instruction_5 : decode cX7_instruction 5 = .ok (.invokestatic 138, 3) := by decide +kernel
theorem dX7_instruction_8 : decode cX7_instruction 8 = .ok (.putfield 94, 3) := by decide +kernel
theorem dX7_instruction_11 : decode cX7_instruction 11 = .ok (.aload_n 0, 1) := by decide +kernel
theorem dX7_instruction_12 : decode cX7_instruction 12 = .ok (.iconst 0, 1) := by decide +kernel
theorem dX7_instruction_13 : decode cX7_instruction 13 = .ok (.putfield 97, 3) := by decide +kernel
theorem dX7_instruction_16 : decode cX7_instruction 16 = .ok (.aload_n 0, 1) := by decide +kernel
theorem dX7_instruction_17 : decode cX7_instruction 17 = .ok (.iconst 0, 1) := by decide +kernel
theorem dX7_instruction_18 : decode cX7_instruction 18 = .ok (.putfield 100, 3) := by decide +kernel
theorem dX7_instruction_21 : decode cX7_instruction 21 = .ok (.aload_n 0, 1) := by decide +kernel
theorem dX7_instruction_22 : decode cX7_instruction 22 = .ok (.getfield 94, 3) := by decide +kernel
theorem dX7_instruction_25 : decode cX7_instruction 25 = .ok (.iconst (-1), 1) := by decide +kernel
theorem dX7_instruction_26 : decode cX7_instruction 26 = .ok (.if_icmp .ne 9, 3) := by decide +kernel
theorem dX7_instruction_29 : decode cX7_instruction 29 = .ok (.aload_n 0, 1) := by decide +kernel
theorem dX7_instruction_30 : decode cX7_instruction 30 = .ok (.iconst 1, 1) := by decide +kernel
theorem dX7_instruction_31 : decode cX7_instruction 31 = .ok (.putfield 125, 3) := by decide +kernel
theorem dX7_instruction_34 : decode cX7_instruction 34 = .ok (.return_, 1) := by decide +kernel
theorem dX7_instruction_35 : decode cX7_instruction 35 = .ok (.aload_n 0, 1) := by decide +kernel
theorem dX7_instruction_36 : decode cX7_instruction 36 = .ok (.dup, 1) := by decide +kernel
theorem dX7_instruction_37 : decode cX7_instruction 37 = .ok (.getfield 88, 3) := by decide +kernel
theorem dX7_instruction_40 : decode cX7_instruction 40 = .ok (.iconst 1, 1) := by decide +kernel
theorem dX7_instruction_41 : decode cX7_instruction 41 = .ok (.iadd, 1) := by decide +kernel
theorem dX7_instruction_42 : decode cX7_instruction 42 = .ok (.putfield 88, 3) := by decide +kernel
theorem dX7_instruction_45 : decode cX7_instruction 45 = .ok (.aload_n 0, 1) := by decide +kernel
theorem dX7_instruction_46 : decode cX7_instruction 46 = .ok (.getfield 94, 3) := by decide +kernel
theorem dX7_instruction_49 : decode cX7_instruction 49 = .ok (.bipush 7, 2) := by decide +kernel
theorem dX7_instruction_51 : decode cX7_instruction 51 = .ok (.if_icmp .ne 17, 3) := by decide +kernel
theorem dX7_instruction_54 : decode cX7_instruction 54 = .ok (.aload_n 0, 1) := by decide +kernel
theorem dX7_instruction_55 : decode cX7_instruction 55 = .ok (.aload_n 0, 1) := by decide +kernel
theorem dX7_instruction_56 : decode cX7_instruction 56 = .ok (.iconst 0, 1) := by decide +kernel
theorem dX7_instruction_57 : decode cX7_instruction 57 = .ok (.bipush 47, 2) := by decide +kernel
theorem dX7_instruction_59 : decode cX7_instruction 59 = .ok (.invokevirtual 135, 3) := by decide +kernel
theorem dX7_instruction_62 : decode cX7_instruction 62 = .ok (.putfield 97, 3) := by decide +kernel
theorem dX7_instruction_65 : decode cX7_instruction 65 = .ok (.goto 85, 3) := by decide +kernel
theorem dX7_instruction_68 : decode cX7_instruction 68 = .ok (.aload_n 0, 1) := by decide +kernel
theorem dX7_instruction_69 : decode cX7_instruction 69 = .ok (.getfield 94, 3) := by decide +kernel
theorem dX7_instruction_72 : decode cX7_instruction 72 = .ok (.bipush 10, 2) := by decide +kernel
theorem dX7_instruction_74 : decode cX7_instruction 74 = .ok (.if_icmp .ge 76, 3) := by decide +kernel
theorem dX7_instruction_77 : decode cX7_instruction 77 = .ok (.aload_n 0, 1) := by decide +kernel
theorem dX7_instruction_78 : decode cX7_instruction 78 = .ok (.aload_n 0, 1) := by decide +kernel
theorem dX7_instruction_79 : decode cX7_instruction 79 = .ok (.iconst 0, 1) := by decide +kernel
theorem dX7_instruction_80 : decode cX7_instruction 80 = .ok (.iconst 3, 1) := by decide +kernel
theorem dX7_instruction_81 : decode cX7_instruction 81 = .ok (.invokevirtual 132, 3) := by decide +kernel
theorem dX7_instruction_84 : decode cX7_instruction 84 = .ok (.putfield 97, 3) := by decide +kernel
theorem dX7_instruction_87 : decode cX7_instruction 87 = .ok (.aload_n 0, 1) := by decide +kernel
theorem dX7_instruction_88 : decode cX7_instruction 88 = .ok (.getfield 94, 3) := by decide +kernel
theorem dX7_instruction_91 : decode cX7_instruction 91 = .ok (.ifCond .ne 20, 3) := by decide +kernel
theorem dX7_instruction_94 : decode cX7_instruction 94 = .ok (.aload_n 0, 1) := by decide +kernel
theorem dX7_instruction_95 : decode cX7_instruction 95 = .ok (.bipush 61, 2) := by decide +kernel
theorem dX7_instruction_97 : decode cX7_instruction 97 = .ok (.invokevirtual 141, 3) := by decide +kernel
theorem dX7_instruction_100 : decode cX7_instruction 100 = .ok (.aload_n 0, 1) := by decide +kernel
theorem dX7_instruction_101 : decode cX7_instruction 101 = .ok (.aload_n 0, 1) := by decide +kernel
theorem dX7_instruction_102 : decode cX7_instruction 102 = .ok (.invokevirtual 144, 3) := by decide +kernel
theorem dX7_instruction_105 : decode cX7_instruction 105 = .ok (.putfield 100, 3) := by decide +kernel
theorem dX7_instruction_108 : decode cX7_instruction 108 = .ok (.goto 42, 3) := by decide +kernel
theorem dX7_instruction_111 : decode cX7_instruction 111 = .ok (.aload_n 0, 1) := by decide +kernel
theorem dX7_instruction_112 : decode cX7_instruction 112 = .ok (.getfield 94, 3) := by decide +kernel
theorem dX7_instruction_115 : decode cX7_instruction 115 = .ok (.bipush 7, 2) := by decide +kernel
theorem dX7_instruction_117 : decode cX7_instruction 117 = .ok (.if_icmp .ge 16, 3) := by decide +kernel
theorem dX7_instruction_120 : decode cX7_instruction 120 = .ok (.aload_n 0, 1) := by decide +kernel
theorem dX7_instruction_121 : decode cX7_instruction 121 = .ok (.aload_n 0, 1) := by decide +kernel
theorem dX7_instruction_122 : decode cX7_instruction 122 = .ok (.iconst 0, 1) := by decide +kernel
theorem dX7_instruction_123 : decode cX7_instruction 123 = .ok (.iconst 3, 1) := by decide +kernel
theorem dX7_instruction_124 : decode cX7_instruction 124 = .ok (.invokevirtual 132, 3) := by decide +kernel
theorem dX7_instruction_127 : decode cX7_instruction 127 = .ok (.putfield 100, 3) := by decide +kernel
theorem dX7_instruction_130 : decode cX7_instruction 130 = .ok (.goto 20, 3) := by decide +kernel
theorem dX7_instruction_133 : decode cX7_instruction 133 = .ok (.aload_n 0, 1) := by decide +kernel
theorem dX7_instruction_134 : decode cX7_instruction 134 = .ok (.bipush 62, 2) := by decide +kernel
theorem dX7_instruction_136 : decode cX7_instruction 136 = .ok (.invokevirtual 141, 3) := by decide +kernel
theorem dX7_instruction_139 : decode cX7_instruction 139 = .ok (.aload_n 0, 1) := by decide +kernel
theorem dX7_instruction_140 : decode cX7_instruction 140 = .ok (.aload_n 0, 1) := by decide +kernel
theorem dX7_instruction_141 : decode cX7_instruction 141 = .ok (.iconst 0, 1) := by decide +kernel
theorem dX7_instruction_142 : decode cX7_instruction 142 = .ok (.bipush 47, 2) := by decide +kernel
theorem dX7_instruction_144 : decode cX7_instruction 144 = .ok (.invokevirtual 135, 3) := by decide +kernel
theorem dX7_instruction_147 : decode cX7_instruction 147 = .ok (.putfield 100, 3) := by decide +kernel
theorem dX7_instruction_150 : decode cX7_instruction 150 = .ok (.return_, 1) := by decide +kernel
set_option maxRecDepth 20000 in
theorem ggX7_isFaulty_X7_instruction : GoodIn wsX7_isFaulty wsX7_instruction := goodIn_r _ [8, 9, 10, 11, 2, 1, 12, 13, 14, 7, 15, 3, 16, 17, 18, 19, 20, 21, 22, 23, 24, 25, 26, 27, 28, 29, 30, 31, 32, 33, 34, 35, 36, 37, 38, 39, 40, 41, 42, 43, 44, 45, 46, 47, 48, 49] (by decide +kernel) (by decide +kernel)
set_option maxRecDepth 20000 in
theorem gX7_isFaulty_X7_instruction : GoodIn wsX7_isFaulty (wsV RX7 91 RX7 yX7_instruction wsX7_instruction) := goodIn_app (goodIn_of _ (by decide +kernel)) ggX7_isFaulty_X7_instruction
set_option maxRecDepth 20000 in
theorem ggX7_isFaulty_X7_sign : GoodIn wsX7_isFaulty wsX7_sign := goodIn_r _ [34, 2, 1, 12, 13, 14, 7, 15, 3, 16, 39, 40, 41, 42, 43, 44, 45, 46, 47, 48, 49] (by decide +kernel) (by decide +kernel)
set_option maxRecDepth 20000 in
theorem gX7_isFaulty_X7_sign : GoodIn wsX7_isFaulty (wsV RX7 141 RX7 yX7_sign wsX7_sign) := goodIn_app (goodIn_of _ (by decide +kernel)) ggX7_isFaulty_X7_sign
theorem dX7_isFaulty_0 : decode cX7_isFaulty 0 = .ok (.aload_n 0, 1) := by decide +kernel
theorem dX7_isFaulty_1 : decode cX7_isFaulty 1 = .ok (.iconst 0, 1) := by decide +kernel
theorem dX7_isFaulty_2 : decode cX7_isFaulty 2 = .ok (.putfield 88, 3) := by decide +kernel
theorem dX7_isFaulty_5 : decode cX7_isFaulty 5 = .ok (.aload_n 0, 1) := by decide +kernel
theorem dX7_isFaulty_6 : decode cX7_isFaulty 6 = .ok (.iconst 0, 1) := by decide +kernel
theorem dX7_isFaulty_7 : decode cX7_isFaulty 7 = .ok (.putfield 125, 3) := by decide +kernel
theorem dX7_isFaulty_10 : decode cX7_isFaulty 10 = .ok (.iconst 1, 1) := by decide +kernel
theorem dX7_isFaulty_11 : decode cX7_isFaulty 11 = .ok (.istore_n 1, 1) := by decide +kernel
theorem dX7_isFaulty_12 : decode cX7_isFaulty 12 = .ok (.iload_n 1, 1) := by decide +kernel
theorem dX7_isFaulty_13 : decode cX7_isFaulty 13 = .ok (.ifCond .eq 57, 3) := by decide +kernel
theorem dX7_isFaulty_16 : decode cX7_isFaulty 16 = .ok (.aload_n 0, 1) := by decide +kernel
theorem dX7_isFaulty_17 : decode cX7_isFaulty 17 = .ok (.invokevirtual 91, 3) := by decide +kernel
theorem dX7_isFaulty_20 : decode cX7_isFaulty 20 = .ok (.aload_n 0, 1) := by decide +kernel
theorem dX7_isFaulty_21 : decode cX7_isFaulty 21 = .ok (.getfield 125, 3) := by decide +kernel
theorem dX7_isFaulty_24 : decode cX7_isFaulty 24 = .ok (.ifCond .ne 18, 3) := by decide +kernel
theorem dX7_isFaulty_27 : decode cX7_isFaulty 27 = .ok (.aload_n 0, 1) := by decide +kernel
theorem dX7_isFaulty_28 : decode cX7_isFaulty 28 = .ok (.getfield 88, 3) := by decide +kernel
theorem dX7_isFaulty_31 : decode cX7_isFaulty 31 = .ok (.aload_n 0, 1) := by decide +kernel
theorem dX7_isFaulty_32 : decode cX7_isFaulty 32 = .ok (.getfield 81, 3) := by decide +kernel
theorem dX7_isFaulty_35 : decode cX7_isFaulty 35 = .ok (.if_icmp .ge 7, 3) := by decide +kernel
theorem dX7_isFaulty_38 : decode cX7_isFaulty 38 = .ok (.iconst 1, 1) := by decide +kernel
theorem dX7_isFaulty_39 : decode cX7_isFaulty 39 = .ok (.goto 4, 3) := by decide +kernel
theorem dX7_isFaulty_42 : decode cX7_isFaulty 42 = .ok (.iconst 0, 1) := by decide +kernel
theorem dX7_isFaulty_43 : decode cX7_isFaulty 43 = .ok (.istore_n 1, 1) := by decide +kernel
theorem dX7_isFaulty_44 : decode cX7_isFaulty 44 = .ok (.iload_n 1, 1) := by decide +kernel
theorem dX7_isFaulty_45 : decode cX7_isFaulty 45 = .ok (.ifCond .eq (-33), 3) := by decide +kernel
theorem dX7_isFaulty_48 : decode cX7_isFaulty 48 = .ok (.aload_n 0, 1) := by decide +kernel
theorem dX7_isFaulty_49 : decode cX7_isFaulty 49 = .ok (.bipush 59, 2) := by decide +kernel
theorem dX7_isFaulty_51 : decode cX7_isFaulty 51 = .ok (.invokevirtual 141, 3) := by decide +kernel
theorem dX7_isFaulty_54 : decode cX7_isFaulty 54 = .ok (.aload_n 0, 1) := by decide +kernel
theorem dX7_isFaulty_55 : decode cX7_isFaulty 55 = .ok (.getfield 125, 3) := by decide +kernel
theorem dX7_isFaulty_58 : decode cX7_isFaulty 58 = .ok (.ifCond .ne 7, 3) := by decide +kernel
theorem dX7_isFaulty_61 : decode cX7_isFaulty 61 = .ok (.iconst 1, 1) := by decide +kernel
theorem dX7_isFaulty_62 : decode cX7_isFaulty 62 = .ok (.goto 4, 3) := by decide +kernel
theorem dX7_isFaulty_65 : decode cX7_isFaulty 65 = .ok (.iconst 0, 1) := by decide +kernel
theorem dX7_isFaulty_66 : decode cX7_isFaulty 66 = .ok (.istore_n 1, 1) := by decide +kernel
theorem dX7_isFaulty_67 : decode cX7_isFaulty 67 = .ok (.goto (-55), 3) := by decide +kernel
theorem dX7_isFaulty_70 : decode cX7_isFaulty 70 = .ok (.aload_n 0, 1) := by decide +kernel
theorem dX7_isFaulty_71 : decode cX7_isFaulty 71 = .ok (.getfield 125, 3) := by decide +kernel
theorem dX7_isFaulty_74 : decode cX7_isFaulty 74 = .ok (.ireturn, 1) := by decide +kernel
set_option maxRecDepth 20000 in
theorem ggX7_fault_X7_isFaulty : GoodIn wsX7_fault wsX7_isFaulty := goodIn_r _ [7, 1, 8, 9, 10, 11, 12, 6, 13, 14, 15, 16, 17, 18, 19, 20, 21, 22, 23, 24, 25, 26, 27, 28, 29, 30, 31, 32, 33, 34, 35, 36, 37, 38, 39, 40, 41, 42, 43, 44, 45, 46, 47, 48, 49, 50, 51, 52, 53, 54] (by decide +kernel) (by decide +kernel)
set_option maxRecDepth 20000 in
theorem gX7_fault_X7_isFaulty : GoodIn wsX7_fault (wsV RX7 76 RX7 yX7_isFaulty wsX7_isFaulty) := goodIn_app (goodIn_of _ (by decide +kernel)) ggX7_fault_X7_isFaulty
theorem dX7_fault_0 : decode cX7_fault 0 = .ok (.aload_n 0, 1) := by decide +kernel
theorem dX7_fault_1 : decode cX7_fault 1 = .ok (.invokevirtual 76, 3) := by decide +kernel
theorem dX7_fault_4 : decode cX7_fault 4 = .ok (.ifCond .eq 10, 3) := by decide +kernel
theorem dX7_fault_7 : decode cX7_fault 7 = .ok (.aload_n 0, 1) := by decide +kernel
theorem dX7_fault_8 : decode cX7_fault 8 = .ok (.getfield 88, 3) := by decide +kernel
theorem dX7_fault_11 : decode cX7_fault 11 = .ok (.goto 5, 3) := by decide +kernel
theorem dX7_fault_14 : decode cX7_fault 14 = .ok (.ldc 147, 2) := by decide +kernel
theorem dX7_fault_16 : decode cX7_fault 16 = .ok (.ireturn, 1) := by decide +kernel
theorem dX7_undo_0 : decode cX7_undo 0 = .ok (.aload_n 0, 1) := by decide +kernel
theorem dX7_undo_1 : decode cX7_undo 1 = .ok (.getfield 30, 3) := by decide +kernel
theorem dX7_undo_4 : decode cX7_undo 4 = .ok (.ifCond .ne 6, 3) := by decide +kernel
theorem dX7_undo_7 : decode cX7_undo 7 = .ok (.ldc 147, 2) := by decide +kernel
theorem dX7_undo_9 : decode cX7_undo 9 = .ok (.ireturn, 1) := by decide +kernel
theorem dX7_undo_10 : decode cX7_undo 10 = .ok (.aload_n 0, 1) := by decide +kernel
theorem dX7_undo_11 : decode cX7_undo 11 = .ok (.dup, 1) := by decide +kernel
theorem dX7_undo_12 : decode cX7_undo 12 = .ok (.getfield 30, 3) := by decide +kernel
theorem dX7_undo_15 : decode cX7_undo 15 = .ok (.iconst 1, 1) := by decide +kernel
theorem dX7_undo_16 : decode cX7_undo 16 = .ok (.isub, 1) := by decide +kernel
theorem dX7_undo_17 : decode cX7_undo 17 = .ok (.putfield 30, 3) := by decide +kernel
theorem dX7_undo_20 : decode cX7_undo 20 = .ok (.iconst 0, 1) := by decide +kernel
theorem dX7_undo_21 : decode cX7_undo 21 = .ok (.istore_n 1, 1) := by decide +kernel
theorem dX7_undo_22 : decode cX7_undo 22 = .ok (.iload_n 1, 1) := by decide +kernel
theorem dX7_undo_23 : decode cX7_undo 23 = .ok (.sipush 341, 3) := by decide +kernel
theorem dX7_undo_26 : decode cX7_undo 26 = .ok (.if_icmp .ge 30, 3) := by decide +kernel
theorem dX7_undo_29 : decode cX7_undo 29 = .ok (.aload_n 0, 1) := by decide +kernel
theorem dX7_undo_30 : decode cX7_undo 30 = .ok (.getfield 7, 3) := by decide +kernel
theorem dX7_undo_33 : decode cX7_undo 33 = .ok (.iload_n 1, 1) := by decide +kernel
theorem dX7_undo_34 : decode cX7_undo 34 = .ok (.aload_n 0, 1) := by decide +kernel
theorem dX7_undo_35 : decode cX7_undo 35 = .ok (.getfield 16, 3) := by decide +kernel
theorem dX7_undo_38 : decode cX7_undo 38 = .ok (.sipush 341, 3) := by decide +kernel
theorem dX7_undo_41 : decode cX7_undo 41 = .ok (.aload_n 0, 1) := by decide +kernel
theorem dX7_undo_42 : decode cX7_undo 42 = .ok (.getfield 30, 3) := by decide +kernel
theorem dX7_undo_45 : decode cX7_undo 45 = .ok (.imul, 1) := by decide +kernel
theorem dX7_undo_46 : decode cX7_undo 46 = .ok (.iload_n 1, 1) := by decide +kernel
theorem dX7_undo_47 : decode cX7_undo 47 = .ok (.iadd, 1) := by decide +kernel
theorem dX7_undo_48 : decode cX7_undo 48 = .ok (.iaload, 1) := by decide +kernel
theorem dX7_undo_49 : decode cX7_undo 49 = .ok (.iastore, 1) := by decide +kernel
theorem dX7_undo_50 : decode cX7_undo 50 = .ok (.iinc 1 1, 3) := by decide +kernel
theorem dX7_undo_53 : decode cX7_undo 53 = .ok (.goto (-31), 3) := by decide +kernel
theorem dX7_undo_56 : decode cX7_undo 56 = .ok (.aload_n 0, 1) := by decide +kernel
theorem dX7_undo_57 : decode cX7_undo 57 = .ok (.getfield 30, 3) := by decide +kernel
theorem dX7_undo_60 : decode cX7_undo 60 = .ok (.ireturn, 1) := by decide +kernel
set_option maxRecDepth 20000 in
theorem ggX7_ofThread_X7_isThread : GoodIn wsX7_ofThread wsX7_isThread := goodIn_r _ [6, 7, 8, 5, 9] (by decide +kernel) (by decide +kernel)
set_option maxRecDepth 20000 in
theorem gX7_ofThread_X7_isThread : GoodIn wsX7_ofThread (va_wsS RX7 103 yX7_isThread wsX7_isThread) := goodIn_app (goodIn_of _ (by decide +kernel)) ggX7_ofThread_X7_isThread
set_option maxRecDepth 20000 in
theorem ggX7_ofThread_X7_at : GoodIn wsX7_ofThread wsX7_at := goodIn_r _ [12] (by decide +kernel) (by decide +kernel)
set_option maxRecDepth 20000 in
theorem gX7_ofThread_X7_at : GoodIn wsX7_ofThread (va_wsS RX7 22 yX7_at wsX7_at) := goodIn_app (goodIn_of _ (by decide +kernel)) ggX7_ofThread_X7_at
theorem dX7_ofThread_0 : decode cX7_ofThread 0 = .ok (.iload_n 1, 1) := by decide +kernel
theorem dX7_ofThread_1 : decode cX7_ofThread 1 = .ok (.invokestatic 103, 3) := by decide +kernel
theorem dX7_ofThread_4 : decode cX7_ofThread 4 = .ok (.ifCond .eq 16, 3) := by decide +kernel
theorem dX7_ofThread_7 : decode cX7_ofThread 7 = .ok (.aload_n 0, 1) := by decide +kernel
theorem dX7_ofThread_8 : decode cX7_ofThread 8 = .ok (.getfield 7, 3) := by decide +kernel
theorem dX7_ofThread_11 : decode cX7_ofThread 11 = .ok (.iload_n 1, 1) := by decide +kernel
theorem dX7_ofThread_12 : decode cX7_ofThread 12 = .ok (.iload_n 2, 1) := by decide +kernel
theorem dX7_ofThread_13 : decode cX7_ofThread 13 = .ok (.invokestatic 22, 3) := by decide +kernel
theorem dX7_ofThread_16 : decode cX7_ofThread 16 = .ok (.iaload, 1) := by decide +kernel
theorem dX7_ofThread_17 : decode cX7_ofThread 17 = .ok (.goto 5, 3) := by decide +kernel
theorem dX7_ofThread_20 : decode cX7_ofThread 20 = .ok (.ldc 75, 2) := by decide +kernel
theorem dX7_ofThread_22 : decode cX7_ofThread 22 = .ok (.ireturn, 1) := by decide +kernel
set_option maxRecDepth 20000 in
theorem ggX7_state_X7_ofThread : GoodIn wsX7_state wsX7_ofThread := goodIn_r _ [5, 6, 7, 8, 9, 4, 10, 11, 12, 13, 14, 15, 16, 17, 18, 19, 20, 21, 22, 23, 24, 25, 26, 27] (by decide +kernel) (by decide +kernel)
set_option maxRecDepth 20000 in
theorem gX7_state_X7_ofThread : GoodIn wsX7_state (wsV RX7 148 RX7 yX7_ofThread wsX7_ofThread) := goodIn_app (goodIn_of _ (by decide +kernel)) ggX7_state_X7_ofThread
theorem dX7_state_0 : decode cX7_state 0 = .ok (.aload_n 0, 1) := by decide +kernel
theorem dX7_state_1 : decode cX7_state 1 = .ok (.iload_n 1, 1) := by decide +kernel
theorem dX7_state_2 : decode cX7_state 2 = .ok (.iconst 0, 1) := by decide +kernel
theorem dX7_state_3 : decode cX7_state 3 = .ok (.invokevirtual 148, 3) := by decide +kernel
theorem dX7_state_6 : decode cX7_state 6 = .ok (.ireturn, 1) := by decide +kernel
set_option maxRecDepth 20000 in
theorem ggX7_programCounter_X7_ofThread : GoodIn wsX7_programCounter wsX7_ofThread := goodIn_r _ [5, 6, 7, 8, 9, 4, 10, 11, 12, 13, 14, 15, 16, 17, 18, 19, 20, 21, 22, 23, 24, 25, 26, 27] (by decide +kernel) (by decide +kernel)
set_option maxRecDepth 20000 in
theorem gX7_programCounter_X7_ofThread : GoodIn wsX7_programCounter (wsV RX7 148 RX7 yX7_ofThread wsX7_ofThread) := goodIn_app (goodIn_of _ (by decide +kernel)) ggX7_programCounter_X7_ofThread
theorem dX7_programCounter_0 : decode cX7_programCounter 0 = .ok (.aload_n 0, 1) := by decide +kernel
theorem dX7_programCounter_1 : decode cX7_programCounter 1 = .ok (.iload_n 1, 1) := by decide +kernel
theorem dX7_programCounter_2 : decode cX7_programCounter 2 = .ok (.iconst 1, 1) := by decide +kernel
theorem dX7_programCounter_3 : decode cX7_programCounter 3 = .ok (.invokevirtual 148, 3) := by decide +kernel
theorem dX7_programCounter_6 : decode cX7_programCounter 6 = .ok (.ireturn, 1) := by decide +kernel
set_option maxRecDepth 20000 in
theorem ggX7_register_X7_isThread : GoodIn wsX7_register wsX7_isThread := goodIn_r _ [5, 6, 7, 4, 8] (by decide +kernel) (by decide +kernel)
set_option maxRecDepth 20000 in
theorem gX7_register_X7_isThread : GoodIn wsX7_register (va_wsS RX7 103 yX7_isThread wsX7_isThread) := goodIn_app (goodIn_of _ (by decide +kernel)) ggX7_register_X7_isThread
set_option maxRecDepth 20000 in
theorem ggX7_register_X7_in : GoodIn wsX7_register wsX7_in := goodIn_r _ [8] (by decide +kernel) (by decide +kernel)
set_option maxRecDepth 20000 in
theorem gX7_register_X7_in : GoodIn wsX7_register (va_wsS RX7 26 yX7_in wsX7_in) := goodIn_app (goodIn_of _ (by decide +kernel)) ggX7_register_X7_in
set_option maxRecDepth 20000 in
theorem ggX7_register_X7_register0 : GoodIn wsX7_register wsX7_register0 := goodIn_r _ [12, 13, 14, 15, 4, 16, 17, 18, 19, 20, 21, 22, 23, 24, 25, 26, 27] (by decide +kernel) (by decide +kernel)
set_option maxRecDepth 20000 in
theorem gX7_register_X7_register0 : GoodIn wsX7_register (wsV RX7 34 RX7 yX7_register0 wsX7_register0) := goodIn_app (goodIn_of _ (by decide +kernel)) ggX7_register_X7_register0
theorem dX7_register_0 : decode cX7_register 0 = .ok (.iload_n 1, 1) := by decide +kernel
theorem dX7_register_1 : decode cX7_register 1 = .ok (.invokestatic 103, 3) := by decide +kernel
theorem dX7_register_4 : decode cX7_register 4 = .ok (.ifCond .eq 21, 3) := by decide +kernel
theorem dX7_register_7 : decode cX7_register 7 = .ok (.iload_n 2, 1) := by decide +kernel
theorem dX7_register_8 : decode cX7_register 8 = .ok (.iconst 0, 1) := by decide +kernel
theorem dX7_register_9 : decode cX7_register 9 = .ok (.iconst 3, 1) := by decide +kernel
theorem dX7_register_10 : decode cX7_register 10 = .ok (.invokestatic 26, 3) := by decide +kernel
theorem dX7_register_13 : decode cX7_register 13 = .ok (.ifCond .eq 12, 3) := by decide +kernel
theorem dX7_register_16 : decode cX7_register 16 = .ok (.aload_n 0, 1) := by decide +kernel
theorem dX7_register_17 : decode cX7_register 17 = .ok (.iload_n 1, 1) := by decide +kernel
theorem dX7_register_18 : decode cX7_register 18 = .ok (.iload_n 2, 1) := by decide +kernel
theorem dX7_register_19 : decode cX7_register 19 = .ok (.invokevirtual 34, 3) := by decide +kernel
theorem dX7_register_22 : decode cX7_register 22 = .ok (.goto 5, 3) := by decide +kernel
theorem dX7_register_25 : decode cX7_register 25 = .ok (.ldc 75, 2) := by decide +kernel
theorem dX7_register_27 : decode cX7_register 27 = .ok (.ireturn, 1) := by decide +kernel
set_option maxRecDepth 20000 in
theorem ggX7_word_X7_in : GoodIn wsX7_word wsX7_in := goodIn_r _ [6] (by decide +kernel) (by decide +kernel)
set_option maxRecDepth 20000 in
theorem gX7_word_X7_in : GoodIn wsX7_word (va_wsS RX7 26 yX7_in wsX7_in) := goodIn_app (goodIn_of _ (by decide +kernel)) ggX7_word_X7_in
theorem dX7_word_0 : decode cX7_word 0 = .ok (.iload_n 1, 1) := by decide +kernel
theorem dX7_word_1 : decode cX7_word 1 = .ok (.iconst 0, 1) := by decide +kernel
theorem dX7_word_2 : decode cX7_word 2 = .ok (.bipush 31, 2) := by decide +kernel
theorem dX7_word_4 : decode cX7_word 4 = .ok (.invokestatic 26, 3) := by decide +kernel
theorem dX7_word_7 : decode cX7_word 7 = .ok (.ifCond .eq 16, 3) := by decide +kernel
theorem dX7_word_10 : decode cX7_word 10 = .ok (.aload_n 0, 1) := by decide +kernel
theorem dX7_word_11 : decode cX7_word 11 = .ok (.getfield 7, 3) := by decide +kernel
theorem dX7_word_14 : decode cX7_word 14 = .ok (.sipush 200, 3) := by decide +kernel
theorem dX7_word_17 : decode cX7_word 17 = .ok (.iload_n 1, 1) := by decide +kernel
theorem dX7_word_18 : decode cX7_word 18 = .ok (.iadd, 1) := by decide +kernel
theorem dX7_word_19 : decode cX7_word 19 = .ok (.iaload, 1) := by decide +kernel
theorem dX7_word_20 : decode cX7_word 20 = .ok (.goto 5, 3) := by decide +kernel
theorem dX7_word_23 : decode cX7_word 23 = .ok (.ldc 75, 2) := by decide +kernel
theorem dX7_word_25 : decode cX7_word 25 = .ok (.ireturn, 1) := by decide +kernel
set_option maxRecDepth 20000 in
theorem ggX7_operation_X7_isPlace : GoodIn wsX7_operation wsX7_isPlace := goodIn_r _ [6, 7, 8, 5, 9] (by decide +kernel) (by decide +kernel)
set_option maxRecDepth 20000 in
theorem gX7_operation_X7_isPlace : GoodIn wsX7_operation (va_wsS RX7 72 yX7_isPlace wsX7_isPlace) := goodIn_app (goodIn_of _ (by decide +kernel)) ggX7_operation_X7_isPlace
theorem dX7_operation_0 : decode cX7_operation 0 = .ok (.iload_n 1, 1) := by decide +kernel
theorem dX7_operation_1 : decode cX7_operation 1 = .ok (.invokestatic 72, 3) := by decide +kernel
theorem dX7_operation_4 : decode cX7_operation 4 = .ok (.ifCond .eq 17, 3) := by decide +kernel
theorem dX7_operation_7 : decode cX7_operation 7 = .ok (.aload_n 0, 1) := by decide +kernel
theorem dX7_operation_8 : decode cX7_operation 8 = .ok (.getfield 7, 3) := by decide +kernel
theorem dX7_operation_11 : decode cX7_operation 11 = .ok (.bipush 56, 2) := by decide +kernel
theorem dX7_operation_13 : decode cX7_operation 13 = .ok (.iconst 3, 1) := by decide +kernel
theorem dX7_operation_14 : decode cX7_operation 14 = .ok (.iload_n 1, 1) := by decide +kernel
theorem dX7_operation_15 : decode cX7_operation 15 = .ok (.imul, 1) := by decide +kernel
theorem dX7_operation_16 : decode cX7_operation 16 = .ok (.iadd, 1) := by decide +kernel
theorem dX7_operation_17 : decode cX7_operation 17 = .ok (.iaload, 1) := by decide +kernel
theorem dX7_operation_18 : decode cX7_operation 18 = .ok (.goto 5, 3) := by decide +kernel
theorem dX7_operation_21 : decode cX7_operation 21 = .ok (.ldc 75, 2) := by decide +kernel
theorem dX7_operation_23 : decode cX7_operation 23 = .ok (.ireturn, 1) := by decide +kernel
set_option maxRecDepth 20000 in
theorem ggX7_operand_X7_isPlace : GoodIn wsX7_operand wsX7_isPlace := goodIn_r _ [8, 9, 10, 7, 11] (by decide +kernel) (by decide +kernel)
set_option maxRecDepth 20000 in
theorem gX7_operand_X7_isPlace : GoodIn wsX7_operand (va_wsS RX7 72 yX7_isPlace wsX7_isPlace) := goodIn_app (goodIn_of _ (by decide +kernel)) ggX7_operand_X7_isPlace
set_option maxRecDepth 20000 in
theorem ggX7_operand_X7_in : GoodIn wsX7_operand wsX7_in := goodIn_r _ [11] (by decide +kernel) (by decide +kernel)
set_option maxRecDepth 20000 in
theorem gX7_operand_X7_in : GoodIn wsX7_operand (va_wsS RX7 26 yX7_in wsX7_in) := goodIn_app (goodIn_of _ (by decide +kernel)) ggX7_operand_X7_in
theorem dX7_operand_0 : decode cX7_operand 0 = .ok (.iload_n 1, 1) := by decide +kernel
theorem dX7_operand_1 : decode cX7_operand 1 = .ok (.invokestatic 72, 3) := by decide +kernel
theorem dX7_operand_4 : decode cX7_operand 4 = .ok (.ifCond .ne 6, 3) := by decide +kernel
theorem dX7_operand_7 : decode cX7_operand 7 = .ok (.ldc 75, 2) := by decide +kernel
theorem dX7_operand_9 : decode cX7_operand 9 = .ok (.ireturn, 1) := by decide +kernel
theorem dX7_operand_10 : decode cX7_operand 10 = .ok (.iload_n 2, 1) := by decide +kernel
theorem dX7_operand_11 : decode cX7_operand 11 = .ok (.iconst 0, 1) := by decide +kernel
theorem dX7_operand_12 : decode cX7_operand 12 = .ok (.iconst 1, 1) := by decide +kernel
theorem dX7_operand_13 : decode cX7_operand 13 = .ok (.invokestatic 26, 3) := by decide +kernel
theorem dX7_operand_16 : decode cX7_operand 16 = .ok (.ifCond .ne 6, 3) := by decide +kernel
theorem dX7_operand_19 : decode cX7_operand 19 = .ok (.ldc 109, 2) := by decide +kernel
theorem dX7_operand_21 : decode cX7_operand 21 = .ok (.ireturn, 1) := by decide +kernel
theorem dX7_operand_22 : decode cX7_operand 22 = .ok (.aload_n 0, 1) := by decide +kernel
theorem dX7_operand_23 : decode cX7_operand 23 = .ok (.getfield 7, 3) := by decide +kernel
theorem dX7_operand_26 : decode cX7_operand 26 = .ok (.bipush 56, 2) := by decide +kernel
theorem dX7_operand_28 : decode cX7_operand 28 = .ok (.iconst 3, 1) := by decide +kernel
theorem dX7_operand_29 : decode cX7_operand 29 = .ok (.iload_n 1, 1) := by decide +kernel
theorem dX7_operand_30 : decode cX7_operand 30 = .ok (.imul, 1) := by decide +kernel
theorem dX7_operand_31 : decode cX7_operand 31 = .ok (.iadd, 1) := by decide +kernel
theorem dX7_operand_32 : decode cX7_operand 32 = .ok (.iaload, 1) := by decide +kernel
theorem dX7_operand_33 : decode cX7_operand 33 = .ok (.istore_n 3, 1) := by decide +kernel
theorem dX7_operand_34 : decode cX7_operand 34 = .ok (.iload_n 3, 1) := by decide +kernel
theorem dX7_operand_35 : decode cX7_operand 35 = .ok (.bipush 9, 2) := by decide +kernel
theorem dX7_operand_37 : decode cX7_operand 37 = .ok (.if_icmp .le 7, 3) := by decide +kernel
theorem dX7_operand_40 : decode cX7_operand 40 = .ok (.iconst 0, 1) := by decide +kernel
theorem dX7_operand_41 : decode cX7_operand 41 = .ok (.goto 14, 3) := by decide +kernel
theorem dX7_operand_44 : decode cX7_operand 44 = .ok (.iload_n 3, 1) := by decide +kernel
theorem dX7_operand_45 : decode cX7_operand 45 = .ok (.bipush 7, 2) := by decide +kernel
theorem dX7_operand_47 : decode cX7_operand 47 = .ok (.if_icmp .ne 7, 3) := by decide +kernel
theorem dX7_operand_50 : decode cX7_operand 50 = .ok (.iconst 1, 1) := by decide +kernel
theorem dX7_operand_51 : decode cX7_operand 51 = .ok (.goto 4, 3) := by decide +kernel
theorem dX7_operand_54 : decode cX7_operand 54 = .ok (.iconst 2, 1) := by decide +kernel
theorem dX7_operand_55 : decode cX7_operand 55 = .ok (.istore 4, 2) := by decide +kernel
theorem dX7_operand_57 : decode cX7_operand 57 = .ok (.iload_n 2, 1) := by decide +kernel
theorem dX7_operand_58 : decode cX7_operand 58 = .ok (.iload 4, 2) := by decide +kernel
theorem dX7_operand_60 : decode cX7_operand 60 = .ok (.if_icmp .ge 21, 3) := by decide +kernel
theorem dX7_operand_63 : decode cX7_operand 63 = .ok (.aload_n 0, 1) := by decide +kernel
theorem dX7_operand_64 : decode cX7_operand 64 = .ok (.getfield 7, 3) := by decide +kernel
theorem dX7_operand_67 : decode cX7_operand 67 = .ok (.bipush 56, 2) := by decide +kernel
theorem dX7_operand_69 : decode cX7_operand 69 = .ok (.iconst 3, 1) := by decide +kernel
theorem dX7_operand_70 : decode cX7_operand 70 = .ok (.iload_n 1, 1) := by decide +kernel
theorem dX7_operand_71 : decode cX7_operand 71 = .ok (.imul, 1) := by decide +kernel
theorem dX7_operand_72 : decode cX7_operand 72 = .ok (.iadd, 1) := by decide +kernel
theorem dX7_operand_73 : decode cX7_operand 73 = .ok (.iconst 1, 1) := by decide +kernel
theorem dX7_operand_74 : decode cX7_operand 74 = .ok (.iadd, 1) := by decide +kernel
theorem dX7_operand_75 : decode cX7_operand 75 = .ok (.iload_n 2, 1) := by decide +kernel
theorem dX7_operand_76 : decode cX7_operand 76 = .ok (.iadd, 1) := by decide +kernel
theorem dX7_operand_77 : decode cX7_operand 77 = .ok (.iaload, 1) := by decide +kernel
theorem dX7_operand_78 : decode cX7_operand 78 = .ok (.goto 5, 3) := by decide +kernel
theorem dX7_operand_81 : decode cX7_operand 81 = .ok (.ldc 147, 2) := by decide +kernel
theorem dX7_operand_83 : decode cX7_operand 83 = .ok (.ireturn, 1) := by decide +kernel
set_option maxRecDepth 20000 in
theorem ggX7_slot_X7_in : GoodIn wsX7_slot wsX7_in := goodIn_r _ [6] (by decide +kernel) (by decide +kernel)
set_option maxRecDepth 20000 in
theorem gX7_slot_X7_in : GoodIn wsX7_slot (va_wsS RX7 26 yX7_in wsX7_in) := goodIn_app (goodIn_of _ (by decide +kernel)) ggX7_slot_X7_in
theorem dX7_slot_0 : decode cX7_slot 0 = .ok (.iload_n 1, 1) := by decide +kernel
theorem dX7_slot_1 : decode cX7_slot 1 = .ok (.iconst 0, 1) := by decide +kernel
theorem dX7_slot_2 : decode cX7_slot 2 = .ok (.bipush 7, 2) := by decide +kernel
theorem dX7_slot_4 : decode cX7_slot 4 = .ok (.invokestatic 26, 3) := by decide +kernel
theorem dX7_slot_7 : decode cX7_slot 7 = .ok (.ifCond .eq 16, 3) := by decide +kernel
theorem dX7_slot_10 : decode cX7_slot 10 = .ok (.aload_n 0, 1) := by decide +kernel
theorem dX7_slot_11 : decode cX7_slot 11 = .ok (.getfield 7, 3) := by decide +kernel
theorem dX7_slot_14 : decode cX7_slot 14 = .ok (.sipush 234, 3) := by decide +kernel
theorem dX7_slot_17 : decode cX7_slot 17 = .ok (.iload_n 1, 1) := by decide +kernel
theorem dX7_slot_18 : decode cX7_slot 18 = .ok (.iadd, 1) := by decide +kernel
theorem dX7_slot_19 : decode cX7_slot 19 = .ok (.iaload, 1) := by decide +kernel
theorem dX7_slot_20 : decode cX7_slot 20 = .ok (.goto 5, 3) := by decide +kernel
theorem dX7_slot_23 : decode cX7_slot 23 = .ok (.ldc 75, 2) := by decide +kernel
theorem dX7_slot_25 : decode cX7_slot 25 = .ok (.ireturn, 1) := by decide +kernel
set_option maxRecDepth 20000 in
theorem ggX7_setting_X7_in : GoodIn wsX7_setting wsX7_in := goodIn_r _ [6] (by decide +kernel) (by decide +kernel)
set_option maxRecDepth 20000 in
theorem gX7_setting_X7_in : GoodIn wsX7_setting (va_wsS RX7 26 yX7_in wsX7_in) := goodIn_app (goodIn_of _ (by decide +kernel)) ggX7_setting_X7_in
theorem dX7_setting_0 : decode cX7_setting 0 = .ok (.iload_n 1, 1) := by decide +kernel
theorem dX7_setting_1 : decode cX7_setting 1 = .ok (.iconst 0, 1) := by decide +kernel
theorem dX7_setting_2 : decode cX7_setting 2 = .ok (.iconst 1, 1) := by decide +kernel
theorem dX7_setting_3 : decode cX7_setting 3 = .ok (.invokestatic 26, 3) := by decide +kernel
theorem dX7_setting_6 : decode cX7_setting 6 = .ok (.ifCond .eq 16, 3) := by decide +kernel
theorem dX7_setting_9 : decode cX7_setting 9 = .ok (.aload_n 0, 1) := by decide +kernel
theorem dX7_setting_10 : decode cX7_setting 10 = .ok (.getfield 7, 3) := by decide +kernel
theorem dX7_setting_13 : decode cX7_setting 13 = .ok (.sipush 242, 3) := by decide +kernel
theorem dX7_setting_16 : decode cX7_setting 16 = .ok (.iload_n 1, 1) := by decide +kernel
theorem dX7_setting_17 : decode cX7_setting 17 = .ok (.iadd, 1) := by decide +kernel
theorem dX7_setting_18 : decode cX7_setting 18 = .ok (.iaload, 1) := by decide +kernel
theorem dX7_setting_19 : decode cX7_setting 19 = .ok (.goto 5, 3) := by decide +kernel
theorem dX7_setting_22 : decode cX7_setting 22 = .ok (.ldc 75, 2) := by decide +kernel
theorem dX7_setting_24 : decode cX7_setting 24 = .ok (.ireturn, 1) := by decide +kernel
set_option maxRecDepth 20000 in
theorem ggX7_breakpoint_X7_isPlace : GoodIn wsX7_breakpoint wsX7_isPlace := goodIn_r _ [6, 7, 8, 5, 9] (by decide +kernel) (by decide +kernel)
set_option maxRecDepth 20000 in
theorem gX7_breakpoint_X7_isPlace : GoodIn wsX7_breakpoint (va_wsS RX7 72 yX7_isPlace wsX7_isPlace) := goodIn_app (goodIn_of _ (by decide +kernel)) ggX7_breakpoint_X7_isPlace
theorem dX7_breakpoint_0 : decode cX7_breakpoint 0 = .ok (.iload_n 1, 1) := by decide +kernel
theorem dX7_breakpoint_1 : decode cX7_breakpoint 1 = .ok (.invokestatic 72, 3) := by decide +kernel
theorem dX7_breakpoint_4 : decode cX7_breakpoint 4 = .ok (.ifCond .eq 16, 3) := by decide +kernel
theorem dX7_breakpoint_7 : decode cX7_breakpoint 7 = .ok (.aload_n 0, 1) := by decide +kernel
theorem dX7_breakpoint_8 : decode cX7_breakpoint 8 = .ok (.getfield 7, 3) := by decide +kernel
theorem dX7_breakpoint_11 : decode cX7_breakpoint 11 = .ok (.sipush 244, 3) := by decide +kernel
theorem dX7_breakpoint_14 : decode cX7_breakpoint 14 = .ok (.iload_n 1, 1) := by decide +kernel
theorem dX7_breakpoint_15 : decode cX7_breakpoint 15 = .ok (.iadd, 1) := by decide +kernel
theorem dX7_breakpoint_16 : decode cX7_breakpoint 16 = .ok (.iaload, 1) := by decide +kernel
theorem dX7_breakpoint_17 : decode cX7_breakpoint 17 = .ok (.goto 5, 3) := by decide +kernel
theorem dX7_breakpoint_20 : decode cX7_breakpoint 20 = .ok (.ldc 75, 2) := by decide +kernel
theorem dX7_breakpoint_22 : decode cX7_breakpoint 22 = .ok (.ireturn, 1) := by decide +kernel
theorem dX7_cycle_0 : decode cX7_cycle 0 = .ok (.aload_n 0, 1) := by decide +kernel
theorem dX7_cycle_1 : decode cX7_cycle 1 = .ok (.getfield 7, 3) := by decide +kernel
theorem dX7_cycle_4 : decode cX7_cycle 4 = .ok (.sipush 232, 3) := by decide +kernel
theorem dX7_cycle_7 : decode cX7_cycle 7 = .ok (.iaload, 1) := by decide +kernel
theorem dX7_cycle_8 : decode cX7_cycle 8 = .ok (.ireturn, 1) := by decide +kernel
theorem dX7_idle_0 : decode cX7_idle 0 = .ok (.aload_n 0, 1) := by decide +kernel
theorem dX7_idle_1 : decode cX7_idle 1 = .ok (.getfield 7, 3) := by decide +kernel
theorem dX7_idle_4 : decode cX7_idle 4 = .ok (.sipush 233, 3) := by decide +kernel
theorem dX7_idle_7 : decode cX7_idle 7 = .ok (.iaload, 1) := by decide +kernel
theorem dX7_idle_8 : decode cX7_idle 8 = .ok (.ireturn, 1) := by decide +kernel
set_option maxRecDepth 20000 in
theorem ggX7_executed_X7_ofThread : GoodIn wsX7_executed wsX7_ofThread := goodIn_r _ [5, 6, 7, 8, 9, 4, 10, 11, 12, 13, 14, 15, 16, 17, 18, 19, 20, 21, 22, 23, 24, 25, 26, 27] (by decide +kernel) (by decide +kernel)
set_option maxRecDepth 20000 in
theorem gX7_executed_X7_ofThread : GoodIn wsX7_executed (wsV RX7 148 RX7 yX7_ofThread wsX7_ofThread) := goodIn_app (goodIn_of _ (by decide +kernel)) ggX7_executed_X7_ofThread
theorem dX7_executed_0 : decode cX7_executed 0 = .ok (.aload_n 0, 1) := by decide +kernel
theorem dX7_executed_1 : decode cX7_executed 1 = .ok (.iload_n 1, 1) := by decide +kernel
theorem dX7_executed_2 : decode cX7_executed 2 = .ok (.bipush 12, 2) := by decide +kernel
theorem dX7_executed_4 : decode cX7_executed 4 = .ok (.invokevirtual 148, 3) := by decide +kernel
theorem dX7_executed_7 : decode cX7_executed 7 = .ok (.ireturn, 1) := by decide +kernel
set_option maxRecDepth 20000 in
theorem ggX7_lent_X7_ofThread : GoodIn wsX7_lent wsX7_ofThread := goodIn_r _ [5, 6, 7, 8, 9, 4, 10, 11, 12, 13, 14, 15, 16, 17, 18, 19, 20, 21, 22, 23, 24, 25, 26, 27] (by decide +kernel) (by decide +kernel)
set_option maxRecDepth 20000 in
theorem gX7_lent_X7_ofThread : GoodIn wsX7_lent (wsV RX7 148 RX7 yX7_ofThread wsX7_ofThread) := goodIn_app (goodIn_of _ (by decide +kernel)) ggX7_lent_X7_ofThread
theorem dX7_lent_0 : decode cX7_lent 0 = .ok (.aload_n 0, 1) := by decide +kernel
theorem dX7_lent_1 : decode cX7_lent 1 = .ok (.iload_n 1, 1) := by decide +kernel
theorem dX7_lent_2 : decode cX7_lent 2 = .ok (.bipush 13, 2) := by decide +kernel
theorem dX7_lent_4 : decode cX7_lent 4 = .ok (.invokevirtual 148, 3) := by decide +kernel
theorem dX7_lent_7 : decode cX7_lent 7 = .ok (.ireturn, 1) := by decide +kernel
set_option maxRecDepth 20000 in
theorem ggX7_starved_X7_ofThread : GoodIn wsX7_starved wsX7_ofThread := goodIn_r _ [5, 6, 7, 8, 9, 4, 10, 11, 12, 13, 14, 15, 16, 17, 18, 19, 20, 21, 22, 23, 24, 25, 26, 27] (by decide +kernel) (by decide +kernel)
set_option maxRecDepth 20000 in
theorem gX7_starved_X7_ofThread : GoodIn wsX7_starved (wsV RX7 148 RX7 yX7_ofThread wsX7_ofThread) := goodIn_app (goodIn_of _ (by decide +kernel)) ggX7_starved_X7_ofThread
theorem dX7_starved_0 : decode cX7_starved 0 = .ok (.aload_n 0, 1) := by decide +kernel
theorem dX7_starved_1 : decode cX7_starved 1 = .ok (.iload_n 1, 1) := by decide +kernel
theorem dX7_starved_2 : decode cX7_starved 2 = .ok (.bipush 11, 2) := by decide +kernel
theorem dX7_starved_4 : decode cX7_starved 4 = .ok (.invokevirtual 148, 3) := by decide +kernel
theorem dX7_starved_7 : decode cX7_starved 7 = .ok (.ireturn, 1) := by decide +kernel
set_option maxRecDepth 20000 in
theorem ggX7_trace_X7_in : GoodIn wsX7_trace wsX7_in := goodIn_r _ [7] (by decide +kernel) (by decide +kernel)
set_option maxRecDepth 20000 in
theorem gX7_trace_X7_in : GoodIn wsX7_trace (va_wsS RX7 26 yX7_in wsX7_in) := goodIn_app (goodIn_of _ (by decide +kernel)) ggX7_trace_X7_in
theorem dX7_trace_0 : decode cX7_trace 0 = .ok (.iload_n 1, 1) := by decide +kernel
theorem dX7_trace_1 : decode cX7_trace 1 = .ok (.ifCond .lt 12, 3) := by decide +kernel
theorem dX7_trace_4 : decode cX7_trace 4 = .ok (.iload_n 2, 1) := by decide +kernel
theorem dX7_trace_5 : decode cX7_trace 5 = .ok (.iconst 0, 1) := by decide +kernel
theorem dX7_trace_6 : decode cX7_trace 6 = .ok (.iconst 2, 1) := by decide +kernel
theorem dX7_trace_7 : decode cX7_trace 7 = .ok (.invokestatic 26, 3) := by decide +kernel
theorem dX7_trace_10 : decode cX7_trace 10 = .ok (.ifCond .ne 6, 3) := by decide +kernel
theorem dX7_trace_13 : decode cX7_trace 13 = .ok (.ldc 109, 2) := by decide +kernel
theorem dX7_trace_15 : decode cX7_trace 15 = .ok (.ireturn, 1) := by decide +kernel
theorem dX7_trace_16 : decode cX7_trace 16 = .ok (.iload_n 1, 1) := by decide +kernel
theorem dX7_trace_17 : decode cX7_trace 17 = .ok (.aload_n 0, 1) := by decide +kernel
theorem dX7_trace_18 : decode cX7_trace 18 = .ok (.getfield 7, 3) := by decide +kernel
theorem dX7_trace_21 : decode cX7_trace 21 = .ok (.sipush 292, 3) := by decide +kernel
theorem dX7_trace_24 : decode cX7_trace 24 = .ok (.iaload, 1) := by decide +kernel
theorem dX7_trace_25 : decode cX7_trace 25 = .ok (.if_icmp .ge 20, 3) := by decide +kernel
theorem dX7_trace_28 : decode cX7_trace 28 = .ok (.aload_n 0, 1) := by decide +kernel
theorem dX7_trace_29 : decode cX7_trace 29 = .ok (.getfield 7, 3) := by decide +kernel
theorem dX7_trace_32 : decode cX7_trace 32 = .ok (.sipush 293, 3) := by decide +kernel
theorem dX7_trace_35 : decode cX7_trace 35 = .ok (.iconst 3, 1) := by decide +kernel
theorem dX7_trace_36 : decode cX7_trace 36 = .ok (.iload_n 1, 1) := by decide +kernel
theorem dX7_trace_37 : decode cX7_trace 37 = .ok (.imul, 1) := by decide +kernel
theorem dX7_trace_38 : decode cX7_trace 38 = .ok (.iadd, 1) := by decide +kernel
theorem dX7_trace_39 : decode cX7_trace 39 = .ok (.iload_n 2, 1) := by decide +kernel
theorem dX7_trace_40 : decode cX7_trace 40 = .ok (.iadd, 1) := by decide +kernel
theorem dX7_trace_41 : decode cX7_trace 41 = .ok (.iaload, 1) := by decide +kernel
theorem dX7_trace_42 : decode cX7_trace 42 = .ok (.goto 5, 3) := by decide +kernel
theorem dX7_trace_45 : decode cX7_trace 45 = .ok (.ldc 147, 2) := by decide +kernel
theorem dX7_trace_47 : decode cX7_trace 47 = .ok (.ireturn, 1) := by decide +kernel
theorem dX7_use_0 : decode cX7_use 0 = .ok (.aload_n 0, 1) := by decide +kernel
theorem dX7_use_1 : decode cX7_use 1 = .ok (.getfield 7, 3) := by decide +kernel
theorem dX7_use_4 : decode cX7_use 4 = .ok (.sipush 232, 3) := by decide +kernel
theorem dX7_use_7 : decode cX7_use 7 = .ok (.iaload, 1) := by decide +kernel
theorem dX7_use_8 : decode cX7_use 8 = .ok (.ifCond .ne 7, 3) := by decide +kernel
theorem dX7_use_11 : decode cX7_use 11 = .ok (.fconst 0, 1) := by decide +kernel
theorem dX7_use_12 : decode cX7_use 12 = .ok (.goto 31, 3) := by decide +kernel
theorem dX7_use_15 : decode cX7_use 15 = .ok (.aload_n 0, 1) := by decide +kernel
theorem dX7_use_16 : decode cX7_use 16 = .ok (.getfield 7, 3) := by decide +kernel
theorem dX7_use_19 : decode cX7_use 19 = .ok (.sipush 232, 3) := by decide +kernel
theorem dX7_use_22 : decode cX7_use 22 = .ok (.iaload, 1) := by decide +kernel
theorem dX7_use_23 : decode cX7_use 23 = .ok (.aload_n 0, 1) := by decide +kernel
theorem dX7_use_24 : decode cX7_use 24 = .ok (.getfield 7, 3) := by decide +kernel
theorem dX7_use_27 : decode cX7_use 27 = .ok (.sipush 233, 3) := by decide +kernel
theorem dX7_use_30 : decode cX7_use 30 = .ok (.iaload, 1) := by decide +kernel
theorem dX7_use_31 : decode cX7_use 31 = .ok (.isub, 1) := by decide +kernel
theorem dX7_use_32 : decode cX7_use 32 = .ok (.i2f, 1) := by decide +kernel
theorem dX7_use_33 : decode cX7_use 33 = .ok (.aload_n 0, 1) := by decide +kernel
theorem dX7_use_34 : decode cX7_use 34 = .ok (.getfield 7, 3) := by decide +kernel
theorem dX7_use_37 : decode cX7_use 37 = .ok (.sipush 232, 3) := by decide +kernel
theorem dX7_use_40 : decode cX7_use 40 = .ok (.iaload, 1) := by decide +kernel
theorem dX7_use_41 : decode cX7_use 41 = .ok (.i2f, 1) := by decide +kernel
theorem dX7_use_42 : decode cX7_use 42 = .ok (.fdiv, 1) := by decide +kernel
theorem dX7_use_43 : decode cX7_use 43 = .ok (.freturn, 1) := by decide +kernel
set_option maxRecDepth 20000 in
theorem ggX7_nextThread_X7_putAside : GoodIn wsX7_nextThread wsX7_putAside := goodIn_r _ [6, 7, 8, 36, 37, 38, 39, 40, 41, 42, 43, 44, 45, 46] (by decide +kernel) (by decide +kernel)
set_option maxRecDepth 20000 in
theorem gX7_nextThread_X7_putAside : GoodIn wsX7_nextThread (wsV RX7 110 RX7 yX7_putAside wsX7_putAside) := goodIn_app (goodIn_of _ (by decide +kernel)) ggX7_nextThread_X7_putAside
set_option maxRecDepth 20000 in
theorem ggX7_nextThread_X7_prepares : GoodIn wsX7_nextThread wsX7_prepares := goodIn_r _ [12, 8, 13, 14, 5, 15, 16, 17, 18, 19, 20, 21, 22, 23, 36, 37, 38, 39, 40, 41, 42, 43, 44, 45, 46] (by decide +kernel) (by decide +kernel)
set_option maxRecDepth 20000 in
theorem gX7_nextThread_X7_prepares : GoodIn wsX7_nextThread (wsV RX7 61 RX7 yX7_prepares wsX7_prepares) := goodIn_app (goodIn_of _ (by decide +kernel)) ggX7_nextThread_X7_prepares
set_option maxRecDepth 20000 in
theorem ggX7_nextThread_X7_issuing : GoodIn wsX7_nextThread wsX7_issuing := goodIn_r _ [27, 8, 28, 29, 30, 5, 31, 13, 14, 15, 36, 37, 38, 39, 40, 41, 42, 43, 44, 45, 46] (by decide +kernel) (by decide +kernel)
set_option maxRecDepth 20000 in
theorem gX7_nextThread_X7_issuing : GoodIn wsX7_nextThread (wsV RX7 64 RX7 yX7_issuing wsX7_issuing) := goodIn_app (goodIn_of _ (by decide +kernel)) ggX7_nextThread_X7_issuing
set_option maxRecDepth 20000 in
theorem ggX7_nextThread_X7_putBack : GoodIn wsX7_nextThread wsX7_putBack := goodIn_r _ [35, 8, 7, 36, 37, 38, 39, 40, 41, 42, 43, 44, 45, 46] (by decide +kernel) (by decide +kernel)
set_option maxRecDepth 20000 in
theorem gX7_nextThread_X7_putBack : GoodIn wsX7_nextThread (wsV RX7 113 RX7 yX7_putBack wsX7_putBack) := goodIn_app (goodIn_of _ (by decide +kernel)) ggX7_nextThread_X7_putBack
theorem dX7_nextThread_0 : decode cX7_nextThread 0 = .ok (.aload_n 0, 1) := by decide +kernel
theorem dX7_nextThread_1 : decode cX7_nextThread 1 = .ok (.invokevirtual 110, 3) := by decide +kernel
theorem dX7_nextThread_4 : decode cX7_nextThread 4 = .ok (.aload_n 0, 1) := by decide +kernel
theorem dX7_nextThread_5 : decode cX7_nextThread 5 = .ok (.invokevirtual 61, 3) := by decide +kernel
theorem dX7_nextThread_8 : decode cX7_nextThread 8 = .ok (.aload_n 0, 1) := by decide +kernel
theorem dX7_nextThread_9 : decode cX7_nextThread 9 = .ok (.invokevirtual 64, 3) := by decide +kernel
theorem dX7_nextThread_12 : decode cX7_nextThread 12 = .ok (.istore_n 1, 1) := by decide +kernel
theorem dX7_nextThread_13 : decode cX7_nextThread 13 = .ok (.aload_n 0, 1) := by decide +kernel
theorem dX7_nextThread_14 : decode cX7_nextThread 14 = .ok (.invokevirtual 113, 3) := by decide +kernel
theorem dX7_nextThread_17 : decode cX7_nextThread 17 = .ok (.iload_n 1, 1) := by decide +kernel
theorem dX7_nextThread_18 : decode cX7_nextThread 18 = .ok (.iconst (-1), 1) := by decide +kernel
theorem dX7_nextThread_19 : decode cX7_nextThread 19 = .ok (.if_icmp .ne 8, 3) := by decide +kernel
theorem dX7_nextThread_22 : decode cX7_nextThread 22 = .ok (.ldc 147, 2) := by decide +kernel
theorem dX7_nextThread_24 : decode cX7_nextThread 24 = .ok (.goto 4, 3) := by decide +kernel
theorem dX7_nextThread_27 : decode cX7_nextThread 27 = .ok (.iload_n 1, 1) := by decide +kernel
theorem dX7_nextThread_28 : decode cX7_nextThread 28 = .ok (.ireturn, 1) := by decide +kernel
set_option maxRecDepth 20000 in
theorem ggX7_runsOut_X7_isOver : GoodIn wsX7_runsOut wsX7_isOver := goodIn_r _ [6, 7, 8, 9, 5, 10, 11, 12, 13, 14, 58, 59, 60, 61, 62, 63, 64, 65, 66, 67, 68] (by decide +kernel) (by decide +kernel)
set_option maxRecDepth 20000 in
theorem gX7_runsOut_X7_isOver : GoodIn wsX7_runsOut (wsV RX7 116 RX7 yX7_isOver wsX7_isOver) := goodIn_app (goodIn_of _ (by decide +kernel)) ggX7_runsOut_X7_isOver
set_option maxRecDepth 20000 in
theorem ggX7_runsOut_X7_cycles : GoodIn wsX7_runsOut wsX7_cycles := goodIn_r _ [18, 11, 19, 20, 21, 5, 22, 12, 13, 14, 23, 24, 25, 26, 7, 8, 9, 10, 27, 28, 29, 30, 31, 32, 33, 34, 35, 36, 37, 38, 39, 40, 41, 42, 43, 44, 45, 46, 47, 48, 49, 50, 51, 52, 53, 54, 55, 56, 57, 58, 59, 60, 61, 62, 63, 64, 65, 66, 67, 68] (by decide +kernel) (by decide +kernel)
set_option maxRecDepth 20000 in
theorem gX7_runsOut_X7_cycles : GoodIn wsX7_runsOut (wsV RX7 122 RX7 yX7_cycles wsX7_cycles) := goodIn_app (goodIn_of _ (by decide +kernel)) ggX7_runsOut_X7_cycles
theorem dX7_runsOut_0 : decode cX7_runsOut 0 = .ok (.iconst 0, 1) := by decide +kernel
theorem dX7_runsOut_1 : decode cX7_runsOut 1 = .ok (.istore_n 1, 1) := by decide +kernel
theorem dX7_runsOut_2 : decode cX7_runsOut 2 = .ok (.iload_n 1, 1) := by decide +kernel
theorem dX7_runsOut_3 : decode cX7_runsOut 3 = .ok (.sipush 500, 3) := by decide +kernel
theorem dX7_runsOut_6 : decode cX7_runsOut 6 = .ok (.if_icmp .ge 20, 3) := by decide +kernel
theorem dX7_runsOut_9 : decode cX7_runsOut 9 = .ok (.aload_n 0, 1) := by decide +kernel
theorem dX7_runsOut_10 : decode cX7_runsOut 10 = .ok (.invokevirtual 116, 3) := by decide +kernel
theorem dX7_runsOut_13 : decode cX7_runsOut 13 = .ok (.ifCond .ne 13, 3) := by decide +kernel
theorem dX7_runsOut_16 : decode cX7_runsOut 16 = .ok (.aload_n 0, 1) := by decide +kernel
theorem dX7_runsOut_17 : decode cX7_runsOut 17 = .ok (.invokevirtual 122, 3) := by decide +kernel
theorem dX7_runsOut_20 : decode cX7_runsOut 20 = .ok (.iinc 1 1, 3) := by decide +kernel
theorem dX7_runsOut_23 : decode cX7_runsOut 23 = .ok (.goto (-21), 3) := by decide +kernel
theorem dX7_runsOut_26 : decode cX7_runsOut 26 = .ok (.aload_n 0, 1) := by decide +kernel
theorem dX7_runsOut_27 : decode cX7_runsOut 27 = .ok (.invokevirtual 116, 3) := by decide +kernel
theorem dX7_runsOut_30 : decode cX7_runsOut 30 = .ok (.ifCond .eq 7, 3) := by decide +kernel
theorem dX7_runsOut_33 : decode cX7_runsOut 33 = .ok (.iload_n 1, 1) := by decide +kernel
theorem dX7_runsOut_34 : decode cX7_runsOut 34 = .ok (.goto 5, 3) := by decide +kernel
theorem dX7_runsOut_37 : decode cX7_runsOut 37 = .ok (.ldc 147, 2) := by decide +kernel
theorem dX7_runsOut_39 : decode cX7_runsOut 39 = .ok (.ireturn, 1) := by decide +kernel
set_option maxRecDepth 20000 in
theorem ggX7_leftIf_X7_putAside : GoodIn wsX7_leftIf wsX7_putAside := goodIn_r _ [6, 7, 1, 71, 72, 73, 74, 75, 76, 77, 78, 79, 80, 81] (by decide +kernel) (by decide +kernel)
set_option maxRecDepth 20000 in
theorem gX7_leftIf_X7_putAside : GoodIn wsX7_leftIf (wsV RX7 110 RX7 yX7_putAside wsX7_putAside) := goodIn_app (goodIn_of _ (by decide +kernel)) ggX7_leftIf_X7_putAside
set_option maxRecDepth 20000 in
theorem ggX7_leftIf_X7_runsOut : GoodIn wsX7_leftIf wsX7_runsOut := goodIn_r _ [11, 12, 13, 14, 15, 5, 16, 17, 18, 19, 20, 1, 21, 22, 23, 24, 25, 26, 27, 28, 29, 30, 31, 32, 33, 34, 35, 36, 37, 38, 39, 40, 41, 42, 43, 44, 45, 46, 47, 48, 49, 50, 51, 52, 53, 54, 55, 56, 57, 58, 59, 60, 61, 62, 63, 64, 65, 66, 71, 72, 73, 74, 75, 76, 77, 78, 79, 80, 81] (by decide +kernel) (by decide +kernel)
set_option maxRecDepth 20000 in
theorem gX7_leftIf_X7_runsOut : GoodIn wsX7_leftIf (wsV RX7 151 RX7 yX7_runsOut wsX7_runsOut) := goodIn_app (goodIn_of _ (by decide +kernel)) ggX7_leftIf_X7_runsOut
set_option maxRecDepth 20000 in
theorem ggX7_leftIf_X7_putBack : GoodIn wsX7_leftIf wsX7_putBack := goodIn_r _ [70, 1, 7, 71, 72, 73, 74, 75, 76, 77, 78, 79, 80, 81] (by decide +kernel) (by decide +kernel)
set_option maxRecDepth 20000 in
theorem gX7_leftIf_X7_putBack : GoodIn wsX7_leftIf (wsV RX7 113 RX7 yX7_putBack wsX7_putBack) := goodIn_app (goodIn_of _ (by decide +kernel)) ggX7_leftIf_X7_putBack
theorem dX7_leftIf_0 : decode cX7_leftIf 0 = .ok (.aload_n 0, 1) := by decide +kernel
theorem dX7_leftIf_1 : decode cX7_leftIf 1 = .ok (.invokevirtual 110, 3) := by decide +kernel
theorem dX7_leftIf_4 : decode cX7_leftIf 4 = .ok (.aload_n 0, 1) := by decide +kernel
theorem dX7_leftIf_5 : decode cX7_leftIf 5 = .ok (.getfield 7, 3) := by decide +kernel
theorem dX7_leftIf_8 : decode cX7_leftIf 8 = .ok (.sipush 242, 3) := by decide +kernel
theorem dX7_leftIf_11 : decode cX7_leftIf 11 = .ok (.iload_n 1, 1) := by decide +kernel
theorem dX7_leftIf_12 : decode cX7_leftIf 12 = .ok (.iastore, 1) := by decide +kernel
theorem dX7_leftIf_13 : decode cX7_leftIf 13 = .ok (.aload_n 0, 1) := by decide +kernel
theorem dX7_leftIf_14 : decode cX7_leftIf 14 = .ok (.getfield 7, 3) := by decide +kernel
theorem dX7_leftIf_17 : decode cX7_leftIf 17 = .ok (.sipush 243, 3) := by decide +kernel
theorem dX7_leftIf_20 : decode cX7_leftIf 20 = .ok (.iload_n 2, 1) := by decide +kernel
theorem dX7_leftIf_21 : decode cX7_leftIf 21 = .ok (.iastore, 1) := by decide +kernel
theorem dX7_leftIf_22 : decode cX7_leftIf 22 = .ok (.aload_n 0, 1) := by decide +kernel
theorem dX7_leftIf_23 : decode cX7_leftIf 23 = .ok (.invokevirtual 151, 3) := by decide +kernel
theorem dX7_leftIf_26 : decode cX7_leftIf 26 = .ok (.istore_n 3, 1) := by decide +kernel
theorem dX7_leftIf_27 : decode cX7_leftIf 27 = .ok (.aload_n 0, 1) := by decide +kernel
theorem dX7_leftIf_28 : decode cX7_leftIf 28 = .ok (.invokevirtual 113, 3) := by decide +kernel
theorem dX7_leftIf_31 : decode cX7_leftIf 31 = .ok (.iload_n 3, 1) := by decide +kernel
theorem dX7_leftIf_32 : decode cX7_leftIf 32 = .ok (.ireturn, 1) := by decide +kernel
set_option maxRecDepth 20000 in
theorem ggX7_cyclesLeft_X7_leftIf : GoodIn wsX7_cyclesLeft wsX7_leftIf := goodIn_r _ [6, 1, 7, 8, 9, 5, 10, 11, 12, 13, 14, 15, 16, 17, 18, 19, 20, 21, 22, 23, 24, 25, 26, 27, 28, 29, 30, 31, 32, 33, 34, 35, 36, 37, 38, 39, 40, 41, 42, 43, 44, 45, 46, 47, 48, 49, 50, 51, 52, 53, 54, 55, 56, 57, 58, 59, 60, 61, 62, 63, 64, 65, 66, 67, 68, 69, 70, 71, 72, 73, 74, 75, 76, 77, 78, 79, 80, 81, 82, 83, 84, 85] (by decide +kernel) (by decide +kernel)
set_option maxRecDepth 20000 in
theorem gX7_cyclesLeft_X7_leftIf : GoodIn wsX7_cyclesLeft (wsV RX7 154 RX7 yX7_leftIf wsX7_leftIf) := goodIn_app (goodIn_of _ (by decide +kernel)) ggX7_cyclesLeft_X7_leftIf
theorem dX7_cyclesLeft_0 : decode cX7_cyclesLeft 0 = .ok (.aload_n 0, 1) := by decide +kernel
theorem dX7_cyclesLeft_1 : decode cX7_cyclesLeft 1 = .ok (.aload_n 0, 1) := by decide +kernel
theorem dX7_cyclesLeft_2 : decode cX7_cyclesLeft 2 = .ok (.getfield 7, 3) := by decide +kernel
theorem dX7_cyclesLeft_5 : decode cX7_cyclesLeft 5 = .ok (.sipush 242, 3) := by decide +kernel
theorem dX7_cyclesLeft_8 : decode cX7_cyclesLeft 8 = .ok (.iaload, 1) := by decide +kernel
theorem dX7_cyclesLeft_9 : decode cX7_cyclesLeft 9 = .ok (.aload_n 0, 1) := by decide +kernel
theorem dX7_cyclesLeft_10 : decode cX7_cyclesLeft 10 = .ok (.getfield 7, 3) := by decide +kernel
theorem dX7_cyclesLeft_13 : decode cX7_cyclesLeft 13 = .ok (.sipush 243, 3) := by decide +kernel
theorem dX7_cyclesLeft_16 : decode cX7_cyclesLeft 16 = .ok (.iaload, 1) := by decide +kernel
theorem dX7_cyclesLeft_17 : decode cX7_cyclesLeft 17 = .ok (.invokevirtual 154, 3) := by decide +kernel
theorem dX7_cyclesLeft_20 : decode cX7_cyclesLeft 20 = .ok (.ireturn, 1) := by decide +kernel
set_option maxRecDepth 20000 in
theorem ggX7_cyclesIf_X7_in : GoodIn wsX7_cyclesIf wsX7_in := goodIn_r _ [5] (by decide +kernel) (by decide +kernel)
set_option maxRecDepth 20000 in
theorem gX7_cyclesIf_X7_in : GoodIn wsX7_cyclesIf (va_wsS RX7 26 yX7_in wsX7_in) := goodIn_app (goodIn_of _ (by decide +kernel)) ggX7_cyclesIf_X7_in
set_option maxRecDepth 20000 in
theorem ggX7_cyclesIf_X7_leftIf : GoodIn wsX7_cyclesIf wsX7_leftIf := goodIn_r _ [9, 10, 11, 12, 13, 4, 14, 15, 16, 17, 18, 19, 20, 21, 22, 23, 24, 25, 26, 27, 28, 29, 30, 31, 32, 33, 34, 35, 36, 37, 38, 39, 40, 41, 42, 43, 44, 45, 46, 47, 48, 49, 50, 51, 52, 53, 54, 55, 56, 57, 58, 59, 60, 61, 62, 63, 2, 3, 5, 64, 65, 66, 67, 68, 69, 70, 71, 72, 73, 74, 75, 76, 77, 78, 79, 80, 81, 82, 83, 84, 85, 86] (by decide +kernel) (by decide +kernel)
set_option maxRecDepth 20000 in
theorem gX7_cyclesIf_X7_leftIf : GoodIn wsX7_cyclesIf (wsV RX7 154 RX7 yX7_leftIf wsX7_leftIf) := goodIn_app (goodIn_of _ (by decide +kernel)) ggX7_cyclesIf_X7_leftIf
theorem dX7_cyclesIf_0 : decode cX7_cyclesIf 0 = .ok (.iload_n 1, 1) := by decide +kernel
theorem dX7_cyclesIf_1 : decode cX7_cyclesIf 1 = .ok (.iconst 0, 1) := by decide +kernel
theorem dX7_cyclesIf_2 : decode cX7_cyclesIf 2 = .ok (.bipush 20, 2) := by decide +kernel
theorem dX7_cyclesIf_4 : decode cX7_cyclesIf 4 = .ok (.invokestatic 26, 3) := by decide +kernel
theorem dX7_cyclesIf_7 : decode cX7_cyclesIf 7 = .ok (.ifCond .eq 21, 3) := by decide +kernel
theorem dX7_cyclesIf_10 : decode cX7_cyclesIf 10 = .ok (.iload_n 2, 1) := by decide +kernel
theorem dX7_cyclesIf_11 : decode cX7_cyclesIf 11 = .ok (.iconst 0, 1) := by decide +kernel
theorem dX7_cyclesIf_12 : decode cX7_cyclesIf 12 = .ok (.iconst 2, 1) := by decide +kernel
theorem dX7_cyclesIf_13 : decode cX7_cyclesIf 13 = .ok (.invokestatic 26, 3) := by decide +kernel
theorem dX7_cyclesIf_16 : decode cX7_cyclesIf 16 = .ok (.ifCond .eq 12, 3) := by decide +kernel
theorem dX7_cyclesIf_19 : decode cX7_cyclesIf 19 = .ok (.aload_n 0, 1) := by decide +kernel
theorem dX7_cyclesIf_20 : decode cX7_cyclesIf 20 = .ok (.iload_n 1, 1) := by decide +kernel
theorem dX7_cyclesIf_21 : decode cX7_cyclesIf 21 = .ok (.iload_n 2, 1) := by decide +kernel
theorem dX7_cyclesIf_22 : decode cX7_cyclesIf 22 = .ok (.invokevirtual 154, 3) := by decide +kernel
theorem dX7_cyclesIf_25 : decode cX7_cyclesIf 25 = .ok (.goto 5, 3) := by decide +kernel
theorem dX7_cyclesIf_28 : decode cX7_cyclesIf 28 = .ok (.ldc 109, 2) := by decide +kernel
theorem dX7_cyclesIf_30 : decode cX7_cyclesIf 30 = .ok (.ireturn, 1) := by decide +kernel
set_option maxRecDepth 20000 in
theorem ggX7_bestLend_X7_leftIf : GoodIn wsX7_bestLend wsX7_leftIf := goodIn_r _ [7, 2, 8, 9, 10, 6, 11, 12, 13, 14, 15, 16, 1, 17, 18, 19, 20, 21, 22, 23, 24, 25, 26, 27, 28, 29, 30, 31, 32, 33, 34, 35, 36, 37, 38, 39, 40, 41, 42, 43, 44, 45, 46, 47, 48, 49, 50, 51, 52, 53, 54, 55, 56, 57, 58, 59, 60, 61, 62, 63, 64, 65, 66, 67, 68, 69, 70, 71, 72, 73, 74, 75, 76, 77, 78, 79, 80, 81, 82, 83, 84, 85] (by decide +kernel) (by decide +kernel)
set_option maxRecDepth 20000 in
theorem gX7_bestLend_X7_leftIf : GoodIn wsX7_bestLend (wsV RX7 154 RX7 yX7_leftIf wsX7_leftIf) := goodIn_app (goodIn_of _ (by decide +kernel)) ggX7_bestLend_X7_leftIf
theorem dX7_bestLend_0 : decode cX7_bestLend 0 = .ok (.ldc 147, 2) := by decide +kernel
theorem dX7_bestLend_2 : decode cX7_bestLend 2 = .ok (.istore_n 1, 1) := by decide +kernel
theorem dX7_bestLend_3 : decode cX7_bestLend 3 = .ok (.sipush 501, 3) := by decide +kernel
theorem dX7_bestLend_6 : decode cX7_bestLend 6 = .ok (.istore_n 2, 1) := by decide +kernel
theorem dX7_bestLend_7 : decode cX7_bestLend 7 = .ok (.iconst 0, 1) := by decide +kernel
theorem dX7_bestLend_8 : decode cX7_bestLend 8 = .ok (.istore_n 3, 1) := by decide +kernel
theorem dX7_bestLend_9 : decode cX7_bestLend 9 = .ok (.iload_n 3, 1) := by decide +kernel
theorem dX7_bestLend_10 : decode cX7_bestLend 10 = .ok (.iconst 3, 1) := by decide +kernel
theorem dX7_bestLend_11 : decode cX7_bestLend 11 = .ok (.if_icmp .ge 42, 3) := by decide +kernel
theorem dX7_bestLend_14 : decode cX7_bestLend 14 = .ok (.aload_n 0, 1) := by decide +kernel
theorem dX7_bestLend_15 : decode cX7_bestLend 15 = .ok (.aload_n 0, 1) := by decide +kernel
theorem dX7_bestLend_16 : decode cX7_bestLend 16 = .ok (.getfield 7, 3) := by decide +kernel
theorem dX7_bestLend_19 : decode cX7_bestLend 19 = .ok (.sipush 242, 3) := by decide +kernel
theorem dX7_bestLend_22 : decode cX7_bestLend 22 = .ok (.iaload, 1) := by decide +kernel
theorem dX7_bestLend_23 : decode cX7_bestLend 23 = .ok (.iload_n 3, 1) := by decide +kernel
theorem dX7_bestLend_24 : decode cX7_bestLend 24 = .ok (.invokevirtual 154, 3) := by decide +kernel
theorem dX7_bestLend_27 : decode cX7_bestLend 27 = .ok (.istore 4, 2) := by decide +kernel
theorem dX7_bestLend_29 : decode cX7_bestLend 29 = .ok (.iload 4, 2) := by decide +kernel
theorem dX7_bestLend_31 : decode cX7_bestLend 31 = .ok (.ldc 147, 2) := by decide +kernel
theorem dX7_bestLend_33 : decode cX7_bestLend 33 = .ok (.if_icmp .eq 14, 3) := by decide +kernel
theorem dX7_bestLend_36 : decode cX7_bestLend 36 = .ok (.iload 4, 2) := by decide +kernel
theorem dX7_bestLend_38 : decode cX7_bestLend 38 = .ok (.iload_n 2, 1) := by decide +kernel
theorem dX7_bestLend_39 : decode cX7_bestLend 39 = .ok (.if_icmp .ge 8, 3) := by decide +kernel
theorem dX7_bestLend_42 : decode cX7_bestLend 42 = .ok (.iload_n 3, 1) := by decide +kernel
theorem dX7_bestLend_43 : decode cX7_bestLend 43 = .ok (.istore_n 1, 1) := by decide +kernel
theorem dX7_bestLend_44 : decode cX7_bestLend 44 = .ok (.iload 4, 2) := by decide +kernel
theorem dX7_bestLend_46 : decode cX7_bestLend 46 = .ok (.istore_n 2, 1) := by decide +kernel
theorem dX7_bestLend_47 : decode cX7_bestLend 47 = .ok (.iinc 3 1, 3) := by decide +kernel
theorem dX7_bestLend_50 : decode cX7_bestLend 50 = .ok (.goto (-41), 3) := by decide +kernel
theorem dX7_bestLend_53 : decode cX7_bestLend 53 = .ok (.iload_n 1, 1) := by decide +kernel
theorem dX7_bestLend_54 : decode cX7_bestLend 54 = .ok (.ireturn, 1) := by decide +kernel
set_option maxRecDepth 20000 in
theorem ggX7_finalWord_X7_in : GoodIn wsX7_finalWord wsX7_in := goodIn_r _ [7] (by decide +kernel) (by decide +kernel)
set_option maxRecDepth 20000 in
theorem gX7_finalWord_X7_in : GoodIn wsX7_finalWord (va_wsS RX7 26 yX7_in wsX7_in) := goodIn_app (goodIn_of _ (by decide +kernel)) ggX7_finalWord_X7_in
set_option maxRecDepth 20000 in
theorem ggX7_finalWord_X7_putAside : GoodIn wsX7_finalWord wsX7_putAside := goodIn_r _ [11, 12, 2, 72, 73, 74, 75, 76, 77, 78, 79, 80, 81, 82] (by decide +kernel) (by decide +kernel)
set_option maxRecDepth 20000 in
theorem gX7_finalWord_X7_putAside : GoodIn wsX7_finalWord (wsV RX7 110 RX7 yX7_putAside wsX7_putAside) := goodIn_app (goodIn_of _ (by decide +kernel)) ggX7_finalWord_X7_putAside
set_option maxRecDepth 20000 in
theorem ggX7_finalWord_X7_runsOut : GoodIn wsX7_finalWord wsX7_runsOut := goodIn_r _ [16, 3, 17, 18, 19, 6, 20, 21, 22, 23, 24, 2, 25, 26, 27, 28, 29, 30, 31, 32, 33, 34, 35, 36, 37, 38, 39, 40, 41, 42, 43, 44, 45, 46, 47, 48, 49, 50, 51, 52, 53, 54, 55, 56, 57, 58, 59, 4, 5, 7, 60, 61, 62, 63, 64, 65, 66, 67, 72, 73, 74, 75, 76, 77, 78, 79, 80, 81, 82] (by decide +kernel) (by decide +kernel)
set_option maxRecDepth 20000 in
theorem gX7_finalWord_X7_runsOut : GoodIn wsX7_finalWord (wsV RX7 151 RX7 yX7_runsOut wsX7_runsOut) := goodIn_app (goodIn_of _ (by decide +kernel)) ggX7_finalWord_X7_runsOut
set_option maxRecDepth 20000 in
theorem ggX7_finalWord_X7_putBack : GoodIn wsX7_finalWord wsX7_putBack := goodIn_r _ [71, 2, 12, 72, 73, 74, 75, 76, 77, 78, 79, 80, 81, 82] (by decide +kernel) (by decide +kernel)
set_option maxRecDepth 20000 in
theorem gX7_finalWord_X7_putBack : GoodIn wsX7_finalWord (wsV RX7 113 RX7 yX7_putBack wsX7_putBack) := goodIn_app (goodIn_of _ (by decide +kernel)) ggX7_finalWord_X7_putBack
theorem dX7_finalWord_0 : decode cX7_finalWord 0 = .ok (.iload_n 1, 1) := by decide +kernel
theorem dX7_finalWord_1 : decode cX7_finalWord 1 = .ok (.iconst 0, 1) := by decide +kernel
theorem dX7_finalWord_2 : decode cX7_finalWord 2 = .ok (.bipush 31, 2) := by decide +kernel
theorem dX7_finalWord_4 : decode cX7_finalWord 4 = .ok (.invokestatic 26, 3) := by decide +kernel
theorem dX7_finalWord_7 : decode cX7_finalWord 7 = .ok (.ifCond .ne 6, 3) := by decide +kernel
theorem dX7_finalWord_10 : decode cX7_finalWord 10 = .ok (.ldc 75, 2) := by decide +kernel
theorem dX7_finalWord_12 : decode cX7_finalWord 12 = .ok (.ireturn, 1) := by decide +kernel
theorem dX7_finalWord_13 : decode cX7_finalWord 13 = .ok (.aload_n 0, 1) := by decide +kernel
theorem dX7_finalWord_14 : decode cX7_finalWord 14 = .ok (.invokevirtual 110, 3) := by decide +kernel
theorem dX7_finalWord_17 : decode cX7_finalWord 17 = .ok (.aload_n 0, 1) := by decide +kernel
theorem dX7_finalWord_18 : decode cX7_finalWord 18 = .ok (.invokevirtual 151, 3) := by decide +kernel
theorem dX7_finalWord_21 : decode cX7_finalWord 21 = .ok (.istore_n 2, 1) := by decide +kernel
theorem dX7_finalWord_22 : decode cX7_finalWord 22 = .ok (.aload_n 0, 1) := by decide +kernel
theorem dX7_finalWord_23 : decode cX7_finalWord 23 = .ok (.getfield 7, 3) := by decide +kernel
theorem dX7_finalWord_26 : decode cX7_finalWord 26 = .ok (.sipush 200, 3) := by decide +kernel
theorem dX7_finalWord_29 : decode cX7_finalWord 29 = .ok (.iload_n 1, 1) := by decide +kernel
theorem dX7_finalWord_30 : decode cX7_finalWord 30 = .ok (.iadd, 1) := by decide +kernel
theorem dX7_finalWord_31 : decode cX7_finalWord 31 = .ok (.iaload, 1) := by decide +kernel
theorem dX7_finalWord_32 : decode cX7_finalWord 32 = .ok (.istore_n 3, 1) := by decide +kernel
theorem dX7_finalWord_33 : decode cX7_finalWord 33 = .ok (.aload_n 0, 1) := by decide +kernel
theorem dX7_finalWord_34 : decode cX7_finalWord 34 = .ok (.invokevirtual 113, 3) := by decide +kernel
theorem dX7_finalWord_37 : decode cX7_finalWord 37 = .ok (.iload_n 2, 1) := by decide +kernel
theorem dX7_finalWord_38 : decode cX7_finalWord 38 = .ok (.ldc 147, 2) := by decide +kernel
theorem dX7_finalWord_40 : decode cX7_finalWord 40 = .ok (.if_icmp .ne 8, 3) := by decide +kernel
theorem dX7_finalWord_43 : decode cX7_finalWord 43 = .ok (.ldc 147, 2) := by decide +kernel
theorem dX7_finalWord_45 : decode cX7_finalWord 45 = .ok (.goto 4, 3) := by decide +kernel
theorem dX7_finalWord_48 : decode cX7_finalWord 48 = .ok (.iload_n 3, 1) := by decide +kernel
theorem dX7_finalWord_49 : decode cX7_finalWord 49 = .ok (.ireturn, 1) := by decide +kernel
theorem dJ11_isValidCodePoint_9a6ad_0 : decode cJ11_isValidCodePoint_9a6ad 0 = .ok (.iload_n 0, 1) := by decide +kernel
theorem dJ11_isValidCodePoint_9a6ad_1 : decode cJ11_isValidCodePoint_9a6ad 1 = .ok (.bipush 16, 2) := by decide +kernel
theorem dJ11_isValidCodePoint_9a6ad_3 : decode cJ11_isValidCodePoint_9a6ad 3 = .ok (.iushr, 1) := by decide +kernel
theorem dJ11_isValidCodePoint_9a6ad_4 : decode cJ11_isValidCodePoint_9a6ad 4 = .ok (.istore_n 1, 1) := by decide +kernel
theorem dJ11_isValidCodePoint_9a6ad_5 : decode cJ11_isValidCodePoint_9a6ad 5 = .ok (.iload_n 1, 1) := by decide +kernel
theorem dJ11_isValidCodePoint_9a6ad_6 : decode cJ11_isValidCodePoint_9a6ad 6 = .ok (.bipush 17, 2) := by decide +kernel
theorem dJ11_isValidCodePoint_9a6ad_8 : decode cJ11_isValidCodePoint_9a6ad 8 = .ok (.if_icmp .ge 7, 3) := by decide +kernel
theorem dJ11_isValidCodePoint_9a6ad_11 : decode cJ11_isValidCodePoint_9a6ad 11 = .ok (.iconst 1, 1) := by decide +kernel
theorem dJ11_isValidCodePoint_9a6ad_12 : decode cJ11_isValidCodePoint_9a6ad 12 = .ok (.goto 4, 3) := by decide +kernel
theorem dJ11_isValidCodePoint_9a6ad_15 : decode cJ11_isValidCodePoint_9a6ad 15 = .ok (.iconst 0, 1) := by decide +kernel
theorem dJ11_isValidCodePoint_9a6ad_16 : decode cJ11_isValidCodePoint_9a6ad 16 = .ok (.ireturn, 1) := by decide +kernel
theorem dJ11_highSurrogate_5068e_0 : decode cJ11_highSurrogate_5068e 0 = .ok (.iload_n 0, 1) := by decide +kernel
theorem dJ11_highSurrogate_5068e_1 : decode cJ11_highSurrogate_5068e 1 = .ok (.bipush 10, 2) := by decide +kernel
theorem dJ11_highSurrogate_5068e_3 : decode cJ11_highSurrogate_5068e 3 = .ok (.iushr, 1) := by decide +kernel
theorem dJ11_highSurrogate_5068e_4 : decode cJ11_highSurrogate_5068e 4 = .ok (.ldc 110, 2) := by decide +kernel
theorem dJ11_highSurrogate_5068e_6 : decode cJ11_highSurrogate_5068e 6 = .ok (.iadd, 1) := by decide +kernel
theorem dJ11_highSurrogate_5068e_7 : decode cJ11_highSurrogate_5068e 7 = .ok (.i2c, 1) := by decide +kernel
theorem dJ11_highSurrogate_5068e_8 : decode cJ11_highSurrogate_5068e 8 = .ok (.ireturn, 1) := by decide +kernel
theorem dJ11_lowSurrogate_5068e_0 : decode cJ11_lowSurrogate_5068e 0 = .ok (.iload_n 0, 1) := by decide +kernel
theorem dJ11_lowSurrogate_5068e_1 : decode cJ11_lowSurrogate_5068e 1 = .ok (.sipush 1023, 3) := by decide +kernel
theorem dJ11_lowSurrogate_5068e_4 : decode cJ11_lowSurrogate_5068e 4 = .ok (.iand, 1) := by decide +kernel
theorem dJ11_lowSurrogate_5068e_5 : decode cJ11_lowSurrogate_5068e 5 = .ok (.ldc 76, 2) := by decide +kernel
theorem dJ11_lowSurrogate_5068e_7 : decode cJ11_lowSurrogate_5068e 7 = .ok (.iadd, 1) := by decide +kernel
theorem dJ11_lowSurrogate_5068e_8 : decode cJ11_lowSurrogate_5068e 8 = .ok (.i2c, 1) := by decide +kernel
theorem dJ11_lowSurrogate_5068e_9 : decode cJ11_lowSurrogate_5068e 9 = .ok (.ireturn, 1) := by decide +kernel
theorem dJ9_max_7cf53_0 : decode cJ9_max_7cf53 0 = .ok (.iload_n 0, 1) := by decide +kernel
theorem dJ9_max_7cf53_1 : decode cJ9_max_7cf53 1 = .ok (.iload_n 1, 1) := by decide +kernel
theorem dJ9_max_7cf53_2 : decode cJ9_max_7cf53 2 = .ok (.if_icmp .lt 7, 3) := by decide +kernel
theorem dJ9_max_7cf53_5 : decode cJ9_max_7cf53 5 = .ok (.iload_n 0, 1) := by decide +kernel
theorem dJ9_max_7cf53_6 : decode cJ9_max_7cf53 6 = .ok (.goto 4, 3) := by decide +kernel
theorem dJ9_max_7cf53_9 : decode cJ9_max_7cf53 9 = .ok (.iload_n 1, 1) := by decide +kernel
theorem dJ9_max_7cf53_10 : decode cJ9_max_7cf53 10 = .ok (.ireturn, 1) := by decide +kernel
theorem dJ9_min_7cf53_0 : decode cJ9_min_7cf53 0 = .ok (.iload_n 0, 1) := by decide +kernel
theorem dJ9_min_7cf53_1 : decode cJ9_min_7cf53 1 = .ok (.iload_n 1, 1) := by decide +kernel
theorem dJ9_min_7cf53_2 : decode cJ9_min_7cf53 2 = .ok (.if_icmp .gt 7, 3) := by decide +kernel
theorem dJ9_min_7cf53_5 : decode cJ9_min_7cf53 5 = .ok (.iload_n 0, 1) := by decide +kernel
theorem dJ9_min_7cf53_6 : decode cJ9_min_7cf53 6 = .ok (.goto 4, 3) := by decide +kernel
theorem dJ9_min_7cf53_9 : decode cJ9_min_7cf53 9 = .ok (.iload_n 1, 1) := by decide +kernel
theorem dJ9_min_7cf53_10 : decode cJ9_min_7cf53 10 = .ok (.ireturn, 1) := by decide +kernel
