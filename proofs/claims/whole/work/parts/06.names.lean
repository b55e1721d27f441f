set_option maxRecDepth 20000 in
theorem ggX7_init_X7_at : GoodIn wsX7_init wsX7_at := goodIn_r _ [12] (by decide +kernel) (by decide +kernel)
set_option maxRecDepth 20000 in
theorem gX7_init_X7_at : GoodIn wsX7_init (va_wsS RX7 22 yX7_at wsX7_at) := goodIn_app (goodIn_of _ (by decide +kernel)) ggX7_init_X7_at
theorem dX7_init_0 : decode cX7_init 0 = .ok (.aload_n 0, 1) := by decide +kernel
theorem dX7_init_1 : decode cX7_init 1 = .ok (.invokespecial 1, 3) := by decide +kernel
theorem dX7_init_4 : decode cX7_init 4 = .ok (.aload_n 0, 1) := by decide +kernel
theorem dX7_init_5 : decode cX7_init 5 = .ok (.sipush 341, 3) := by decide +kernel
theorem dX7_init_8 : decode cX7_init 8 = .ok (.newarray .int, 2) := by decide +kernel
theorem dX7_init_10 : decode cX7_init 10 = .ok (.putfield 7, 3) := by decide +kernel
theorem dX7_init_13 : decode cX7_init 13 = .ok (.aload_n 0, 1) := by decide +kernel
theorem dX7_init_14 : decode cX7_init 14 = .ok (.sipush 341, 3) := by decide +kernel
theorem dX7_init_17 : decode cX7_init 17 = .ok (.newarray .int, 2) := by decide +kernel
theorem dX7_init_19 : decode cX7_init 19 = .ok (.putfield 13, 3) := by decide +kernel
theorem dX7_init_22 : decode cX7_init 22 = .ok (.aload_n 0, 1) := by decide +kernel
theorem dX7_init_23 : decode cX7_init 23 = .ok (.sipush 1364, 3) := by decide +kernel
theorem dX7_init_26 : decode cX7_init 26 = .ok (.newarray .int, 2) := by decide +kernel
theorem dX7_init_28 : decode cX7_init 28 = .ok (.putfield 16, 3) := by decide +kernel
theorem dX7_init_31 : decode cX7_init 31 = .ok (.aload_n 0, 1) := by decide +kernel
theorem dX7_init_32 : decode cX7_init 32 = .ok (.bipush 100, 2) := by decide +kernel
theorem dX7_init_34 : decode cX7_init 34 = .ok (.newarray .int, 2) := by decide +kernel
theorem dX7_init_36 : decode cX7_init 36 = .ok (.putfield 19, 3) := by decide +kernel
theorem dX7_init_39 : decode cX7_init 39 = .ok (.iconst 0, 1) := by decide +kernel
theorem dX7_init_40 : decode cX7_init 40 = .ok (.istore_n 1, 1) := by decide +kernel
theorem dX7_init_41 : decode cX7_init 41 = .ok (.iload_n 1, 1) := by decide +kernel
theorem dX7_init_42 : decode cX7_init 42 = .ok (.bipush 48, 2) := by decide +kernel
theorem dX7_init_44 : decode cX7_init 44 = .ok (.if_icmp .ge 22, 3) := by decide +kernel
theorem dX7_init_47 : decode cX7_init 47 = .ok (.aload_n 0, 1) := by decide +kernel
theorem dX7_init_48 : decode cX7_init 48 = .ok (.getfield 7, 3) := by decide +kernel
theorem dX7_init_51 : decode cX7_init 51 = .ok (.bipush 56, 2) := by decide +kernel
theorem dX7_init_53 : decode cX7_init 53 = .ok (.iconst 3, 1) := by decide +kernel
theorem dX7_init_54 : decode cX7_init 54 = .ok (.iload_n 1, 1) := by decide +kernel
theorem dX7_init_55 : decode cX7_init 55 = .ok (.imul, 1) := by decide +kernel
theorem dX7_init_56 : decode cX7_init 56 = .ok (.iadd, 1) := by decide +kernel
theorem dX7_init_57 : decode cX7_init 57 = .ok (.bipush 11, 2) := by decide +kernel
theorem dX7_init_59 : decode cX7_init 59 = .ok (.iastore, 1) := by decide +kernel
theorem dX7_init_60 : decode cX7_init 60 = .ok (.iinc 1 1, 3) := by decide +kernel
theorem dX7_init_63 : decode cX7_init 63 = .ok (.goto (-22), 3) := by decide +kernel
theorem dX7_init_66 : decode cX7_init 66 = .ok (.iconst 0, 1) := by decide +kernel
theorem dX7_init_67 : decode cX7_init 67 = .ok (.istore_n 1, 1) := by decide +kernel
theorem dX7_init_68 : decode cX7_init 68 = .ok (.iload_n 1, 1) := by decide +kernel
theorem dX7_init_69 : decode cX7_init 69 = .ok (.bipush 8, 2) := by decide +kernel
theorem dX7_init_71 : decode cX7_init 71 = .ok (.if_icmp .ge 22, 3) := by decide +kernel
theorem dX7_init_74 : decode cX7_init 74 = .ok (.aload_n 0, 1) := by decide +kernel
theorem dX7_init_75 : decode cX7_init 75 = .ok (.getfield 7, 3) := by decide +kernel
theorem dX7_init_78 : decode cX7_init 78 = .ok (.sipush 234, 3) := by decide +kernel
theorem dX7_init_81 : decode cX7_init 81 = .ok (.iload_n 1, 1) := by decide +kernel
theorem dX7_init_82 : decode cX7_init 82 = .ok (.iadd, 1) := by decide +kernel
theorem dX7_init_83 : decode cX7_init 83 = .ok (.iload_n 1, 1) := by decide +kernel
theorem dX7_init_84 : decode cX7_init 84 = .ok (.iconst 4, 1) := by decide +kernel
theorem dX7_init_85 : decode cX7_init 85 = .ok (.irem, 1) := by decide +kernel
theorem dX7_init_86 : decode cX7_init 86 = .ok (.iastore, 1) := by decide +kernel
theorem dX7_init_87 : decode cX7_init 87 = .ok (.iinc 1 1, 3) := by decide +kernel
theorem dX7_init_90 : decode cX7_init 90 = .ok (.goto (-22), 3) := by decide +kernel
theorem dX7_init_93 : decode cX7_init 93 = .ok (.iconst 0, 1) := by decide +kernel
theorem dX7_init_94 : decode cX7_init 94 = .ok (.istore_n 1, 1) := by decide +kernel
theorem dX7_init_95 : decode cX7_init 95 = .ok (.iload_n 1, 1) := by decide +kernel
theorem dX7_init_96 : decode cX7_init 96 = .ok (.iconst 4, 1) := by decide +kernel
theorem dX7_init_97 : decode cX7_init 97 = .ok (.if_icmp .ge 21, 3) := by decide +kernel
theorem dX7_init_100 : decode cX7_init 100 = .ok (.aload_n 0, 1) := by decide +kernel
theorem dX7_init_101 : decode cX7_init 101 = .ok (.getfield 7, 3) := by decide +kernel
theorem dX7_init_104 : decode cX7_init 104 = .ok (.iload_n 1, 1) := by decide +kernel
theorem dX7_init_105 : decode cX7_init 105 = .ok (.bipush 9, 2) := by decide +kernel
theorem dX7_init_107 : decode cX7_init 107 = .ok (.invokestatic 22, 3) := by decide +kernel
theorem dX7_init_110 : decode cX7_init 110 = .ok (.iconst (-1), 1) := by decide +kernel
theorem dX7_init_111 : decode cX7_init 111 = .ok (.iastore, 1) := by decide +kernel
theorem dX7_init_112 : decode cX7_init 112 = .ok (.iinc 1 1, 3) := by decide +kernel
theorem dX7_init_115 : decode cX7_init 115 = .ok (.goto (-20), 3) := by decide +kernel
theorem dX7_init_118 : decode cX7_init 118 = .ok (.aload_n 0, 1) := by decide +kernel
theorem dX7_init_119 : decode cX7_init 119 = .ok (.getfield 7, 3) := by decide +kernel
theorem dX7_init_122 : decode cX7_init 122 = .ok (.sipush 242, 3) := by decide +kernel
theorem dX7_init_125 : decode cX7_init 125 = .ok (.iconst 3, 1) := by decide +kernel
theorem dX7_init_126 : decode cX7_init 126 = .ok (.iastore, 1) := by decide +kernel
theorem dX7_init_127 : decode cX7_init 127 = .ok (.return_, 1) := by decide +kernel
theorem dX7_in_0 : decode cX7_in 0 = .ok (.iload_n 0, 1) := by decide +kernel
theorem dX7_in_1 : decode cX7_in 1 = .ok (.iload_n 1, 1) := by decide +kernel
theorem dX7_in_2 : decode cX7_in 2 = .ok (.if_icmp .lt 12, 3) := by decide +kernel
theorem dX7_in_5 : decode cX7_in 5 = .ok (.iload_n 0, 1) := by decide +kernel
theorem dX7_in_6 : decode cX7_in 6 = .ok (.iload_n 2, 1) := by decide +kernel
theorem dX7_in_7 : decode cX7_in 7 = .ok (.if_icmp .gt 7, 3) := by decide +kernel
theorem dX7_in_10 : decode cX7_in 10 = .ok (.iconst 1, 1) := by decide +kernel
theorem dX7_in_11 : decode cX7_in 11 = .ok (.goto 4, 3) := by decide +kernel
theorem dX7_in_14 : decode cX7_in 14 = .ok (.iconst 0, 1) := by decide +kernel
theorem dX7_in_15 : decode cX7_in 15 = .ok (.ireturn, 1) := by decide +kernel
theorem dX7_at_0 : decode cX7_at 0 = .ok (.bipush 14, 2) := by decide +kernel
theorem dX7_at_2 : decode cX7_at 2 = .ok (.iload_n 0, 1) := by decide +kernel
theorem dX7_at_3 : decode cX7_at 3 = .ok (.imul, 1) := by decide +kernel
theorem dX7_at_4 : decode cX7_at 4 = .ok (.iload_n 1, 1) := by decide +kernel
theorem dX7_at_5 : decode cX7_at 5 = .ok (.iadd, 1) := by decide +kernel
theorem dX7_at_6 : decode cX7_at 6 = .ok (.ireturn, 1) := by decide +kernel
set_option maxRecDepth 20000 in
theorem ggX7_isThread_X7_in : GoodIn wsX7_isThread wsX7_in := goodIn_r _ [4] (by decide +kernel) (by decide +kernel)
set_option maxRecDepth 20000 in
theorem gX7_isThread_X7_in : GoodIn wsX7_isThread (va_wsS RX7 26 yX7_in wsX7_in) := goodIn_app (goodIn_of _ (by decide +kernel)) ggX7_isThread_X7_in
theorem dX7_isThread_0 : decode cX7_isThread 0 = .ok (.iload_n 0, 1) := by decide +kernel
theorem dX7_isThread_1 : decode cX7_isThread 1 = .ok (.iconst 0, 1) := by decide +kernel
theorem dX7_isThread_2 : decode cX7_isThread 2 = .ok (.iconst 3, 1) := by decide +kernel
theorem dX7_isThread_3 : decode cX7_isThread 3 = .ok (.invokestatic 26, 3) := by decide +kernel
theorem dX7_isThread_6 : decode cX7_isThread 6 = .ok (.ireturn, 1) := by decide +kernel
set_option maxRecDepth 20000 in
theorem ggX7_isPlace_X7_in : GoodIn wsX7_isPlace wsX7_in := goodIn_r _ [4] (by decide +kernel) (by decide +kernel)
set_option maxRecDepth 20000 in
theorem gX7_isPlace_X7_in : GoodIn wsX7_isPlace (va_wsS RX7 26 yX7_in wsX7_in) := goodIn_app (goodIn_of _ (by decide +kernel)) ggX7_isPlace_X7_in
theorem dX7_isPlace_0 : decode cX7_isPlace 0 = .ok (.iload_n 0, 1) := by decide +kernel
theorem dX7_isPlace_1 : decode cX7_isPlace 1 = .ok (.iconst 0, 1) := by decide +kernel
theorem dX7_isPlace_2 : decode cX7_isPlace 2 = .ok (.bipush 47, 2) := by decide +kernel
theorem dX7_isPlace_4 : decode cX7_isPlace 4 = .ok (.invokestatic 26, 3) := by decide +kernel
theorem dX7_isPlace_7 : decode cX7_isPlace 7 = .ok (.ireturn, 1) := by decide +kernel
set_option maxRecDepth 20000 in
theorem ggX7_isShort_X7_in : GoodIn wsX7_isShort wsX7_in := goodIn_r _ [4] (by decide +kernel) (by decide +kernel)
set_option maxRecDepth 20000 in
theorem gX7_isShort_X7_in : GoodIn wsX7_isShort (va_wsS RX7 26 yX7_in wsX7_in) := goodIn_app (goodIn_of _ (by decide +kernel)) ggX7_isShort_X7_in
theorem dX7_isShort_0 : decode cX7_isShort 0 = .ok (.iload_n 0, 1) := by decide +kernel
theorem dX7_isShort_1 : decode cX7_isShort 1 = .ok (.sipush (-32768), 3) := by decide +kernel
theorem dX7_isShort_4 : decode cX7_isShort 4 = .ok (.sipush 32767, 3) := by decide +kernel
theorem dX7_isShort_7 : decode cX7_isShort 7 = .ok (.invokestatic 26, 3) := by decide +kernel
theorem dX7_isShort_10 : decode cX7_isShort 10 = .ok (.ireturn, 1) := by decide +kernel
theorem dX7_putAside_0 : decode cX7_putAside 0 = .ok (.iconst 0, 1) := by decide +kernel
theorem dX7_putAside_1 : decode cX7_putAside 1 = .ok (.istore_n 1, 1) := by decide +kernel
theorem dX7_putAside_2 : decode cX7_putAside 2 = .ok (.iload_n 1, 1) := by decide +kernel
theorem dX7_putAside_3 : decode cX7_putAside 3 = .ok (.sipush 341, 3) := by decide +kernel
theorem dX7_putAside_6 : decode cX7_putAside 6 = .ok (.if_icmp .ge 21, 3) := by decide +kernel
theorem dX7_putAside_9 : decode cX7_putAside 9 = .ok (.aload_n 0, 1) := by decide +kernel
theorem dX7_putAside_10 : decode cX7_putAside 10 = .ok (.getfield 13, 3) := by decide +kernel
theorem dX7_putAside_13 : decode cX7_putAside 13 = .ok (.iload_n 1, 1) := by decide +kernel
theorem dX7_putAside_14 : decode cX7_putAside 14 = .ok (.aload_n 0, 1) := by decide +kernel
theorem dX7_putAside_15 : decode cX7_putAside 15 = .ok (.getfield 7, 3) := by decide +kernel
theorem dX7_putAside_18 : decode cX7_putAside 18 = .ok (.iload_n 1, 1) := by decide +kernel
theorem dX7_putAside_19 : decode cX7_putAside 19 = .ok (.iaload, 1) := by decide +kernel
theorem dX7_putAside_20 : decode cX7_putAside 20 = .ok (.iastore, 1) := by decide +kernel
theorem dX7_putAside_21 : decode cX7_putAside 21 = .ok (.iinc 1 1, 3) := by decide +kernel
theorem dX7_putAside_24 : decode cX7_putAside 24 = .ok (.goto (-22), 3) := by decide +kernel
theorem dX7_putAside_27 : decode cX7_putAside 27 = .ok (.return_, 1) := by decide +kernel
theorem dX7_putBack_0 : decode cX7_putBack 0 = .ok (.iconst 0, 1) := by decide +kernel
theorem dX7_putBack_1 : decode cX7_putBack 1 = .ok (.istore_n 1, 1) := by decide +kernel
theorem dX7_putBack_2 : decode cX7_putBack 2 = .ok (.iload_n 1, 1) := by decide +kernel
theorem dX7_putBack_3 : decode cX7_putBack 3 = .ok (.sipush 341, 3) := by decide +kernel
theorem dX7_putBack_6 : decode cX7_putBack 6 = .ok (.if_icmp .ge 21, 3) := by decide +kernel
theorem dX7_putBack_9 : decode cX7_putBack 9 = .ok (.aload_n 0, 1) := by decide +kernel
theorem dX7_putBack_10 : decode cX7_putBack 10 = .ok (.getfield 7, 3) := by decide +kernel
theorem dX7_putBack_13 : decode cX7_putBack 13 = .ok (.iload_n 1, 1) := by decide +kernel
theorem dX7_putBack_14 : decode cX7_putBack 14 = .ok (.aload_n 0, 1) := by decide +kernel
theorem dX7_putBack_15 : decode cX7_putBack 15 = .ok (.getfield 13, 3) := by decide +kernel
theorem dX7_putBack_18 : decode cX7_putBack 18 = .ok (.iload_n 1, 1) := by decide +kernel
theorem dX7_putBack_19 : decode cX7_putBack 19 = .ok (.iaload, 1) := by decide +kernel
theorem dX7_putBack_20 : decode cX7_putBack 20 = .ok (.iastore, 1) := by decide +kernel
theorem dX7_putBack_21 : decode cX7_putBack 21 = .ok (.iinc 1 1, 3) := by decide +kernel
theorem dX7_putBack_24 : decode cX7_putBack 24 = .ok (.goto (-22), 3) := by decide +kernel
theorem dX7_putBack_27 : decode cX7_putBack 27 = .ok (.return_, 1) := by decide +kernel
theorem dX7_records_0 : decode cX7_records 0 = .ok (.aload_n 0, 1) := by decide +kernel
theorem dX7_records_1 : decode cX7_records 1 = .ok (.getfield 30, 3) := by decide +kernel
theorem dX7_records_4 : decode cX7_records 4 = .ok (.iconst 4, 1) := by decide +kernel
theorem dX7_records_5 : decode cX7_records 5 = .ok (.if_icmp .ne 44, 3) := by decide +kernel
theorem dX7_records_8 : decode cX7_records 8 = .ok (.iconst 0, 1) := by decide +kernel
theorem dX7_records_9 : decode cX7_records 9 = .ok (.istore_n 1, 1) := by decide +kernel
theorem dX7_records_10 : decode cX7_records 10 = .ok (.iload_n 1, 1) := by decide +kernel
theorem dX7_records_11 : decode cX7_records 11 = .ok (.sipush 1023, 3) := by decide +kernel
theorem dX7_records_14 : decode cX7_records 14 = .ok (.if_icmp .ge 25, 3) := by decide +kernel
theorem dX7_records_17 : decode cX7_records 17 = .ok (.aload_n 0, 1) := by decide +kernel
theorem dX7_records_18 : decode cX7_records 18 = .ok (.getfield 16, 3) := by decide +kernel
theorem dX7_records_21 : decode cX7_records 21 = .ok (.iload_n 1, 1) := by decide +kernel
theorem dX7_records_22 : decode cX7_records 22 = .ok (.aload_n 0, 1) := by decide +kernel
theorem dX7_records_23 : decode cX7_records 23 = .ok (.getfield 16, 3) := by decide +kernel
theorem dX7_records_26 : decode cX7_records 26 = .ok (.sipush 341, 3) := by decide +kernel
theorem dX7_records_29 : decode cX7_records 29 = .ok (.iload_n 1, 1) := by decide +kernel
theorem dX7_records_30 : decode cX7_records 30 = .ok (.iadd, 1) := by decide +kernel
theorem dX7_records_31 : decode cX7_records 31 = .ok (.iaload, 1) := by decide +kernel
theorem dX7_records_32 : decode cX7_records 32 = .ok (.iastore, 1) := by decide +kernel
theorem dX7_records_33 : decode cX7_records 33 = .ok (.iinc 1 1, 3) := by decide +kernel
theorem dX7_records_36 : decode cX7_records 36 = .ok (.goto (-26), 3) := by decide +kernel
theorem dX7_records_39 : decode cX7_records 39 = .ok (.aload_n 0, 1) := by decide +kernel
theorem dX7_records_40 : decode cX7_records 40 = .ok (.dup, 1) := by decide +kernel
theorem dX7_records_41 : decode cX7_records 41 = .ok (.getfield 30, 3) := by decide +kernel
theorem dX7_records_44 : decode cX7_records 44 = .ok (.iconst 1, 1) := by decide +kernel
theorem dX7_records_45 : decode cX7_records 45 = .ok (.isub, 1) := by decide +kernel
theorem dX7_records_46 : decode cX7_records 46 = .ok (.putfield 30, 3) := by decide +kernel
theorem dX7_records_49 : decode cX7_records 49 = .ok (.iconst 0, 1) := by decide +kernel
theorem dX7_records_50 : decode cX7_records 50 = .ok (.istore_n 1, 1) := by decide +kernel
theorem dX7_records_51 : decode cX7_records 51 = .ok (.iload_n 1, 1) := by decide +kernel
theorem dX7_records_52 : decode cX7_records 52 = .ok (.sipush 341, 3) := by decide +kernel
theorem dX7_records_55 : decode cX7_records 55 = .ok (.if_icmp .ge 30, 3) := by decide +kernel
theorem dX7_records_58 : decode cX7_records 58 = .ok (.aload_n 0, 1) := by decide +kernel
theorem dX7_records_59 : decode cX7_records 59 = .ok (.getfield 16, 3) := by decide +kernel
theorem dX7_records_62 : decode cX7_records 62 = .ok (.sipush 341, 3) := by decide +kernel
theorem dX7_records_65 : decode cX7_records 65 = .ok (.aload_n 0, 1) := by decide +kernel
theorem dX7_records_66 : decode cX7_records 66 = .ok (.getfield 30, 3) := by decide +kernel
theorem dX7_records_69 : decode cX7_records 69 = .ok (.imul, 1) := by decide +kernel
theorem dX7_records_70 : decode cX7_records 70 = .ok (.iload_n 1, 1) := by decide +kernel
theorem dX7_records_71 : decode cX7_records 71 = .ok (.iadd, 1) := by decide +kernel
theorem dX7_records_72 : decode cX7_records 72 = .ok (.aload_n 0, 1) := by decide +kernel
theorem dX7_records_73 : decode cX7_records 73 = .ok (.getfield 7, 3) := by decide +kernel
theorem dX7_records_76 : decode cX7_records 76 = .ok (.iload_n 1, 1) := by decide +kernel
theorem dX7_records_77 : decode cX7_records 77 = .ok (.iaload, 1) := by decide +kernel
theorem dX7_records_78 : decode cX7_records 78 = .ok (.iastore, 1) := by decide +kernel
theorem dX7_records_79 : decode cX7_records 79 = .ok (.iinc 1 1, 3) := by decide +kernel
theorem dX7_records_82 : decode cX7_records 82 = .ok (.goto (-31), 3) := by decide +kernel
theorem dX7_records_85 : decode cX7_records 85 = .ok (.aload_n 0, 1) := by decide +kernel
theorem dX7_records_86 : decode cX7_records 86 = .ok (.dup, 1) := by decide +kernel
theorem dX7_records_87 : decode cX7_records 87 = .ok (.getfield 30, 3) := by decide +kernel
theorem dX7_records_90 : decode cX7_records 90 = .ok (.iconst 1, 1) := by decide +kernel
theorem dX7_records_91 : decode cX7_records 91 = .ok (.iadd, 1) := by decide +kernel
theorem dX7_records_92 : decode cX7_records 92 = .ok (.putfield 30, 3) := by decide +kernel
theorem dX7_records_95 : decode cX7_records 95 = .ok (.return_, 1) := by decide +kernel
set_option maxRecDepth 20000 in
theorem ggX7_register0_X7_at : GoodIn wsX7_register0 wsX7_at := goodIn_r _ [5] (by decide +kernel) (by decide +kernel)
set_option maxRecDepth 20000 in
theorem gX7_register0_X7_at : GoodIn wsX7_register0 (va_wsS RX7 22 yX7_at wsX7_at) := goodIn_app (goodIn_of _ (by decide +kernel)) ggX7_register0_X7_at
theorem dX7_register0_0 : decode cX7_register0 0 = .ok (.aload_n 0, 1) := by decide +kernel
theorem dX7_register0_1 : decode cX7_register0 1 = .ok (.getfield 7, 3) := by decide +kernel
theorem dX7_register0_4 : decode cX7_register0 4 = .ok (.iload_n 1, 1) := by decide +kernel
theorem dX7_register0_5 : decode cX7_register0 5 = .ok (.iconst 2, 1) := by decide +kernel
theorem dX7_register0_6 : decode cX7_register0 6 = .ok (.iload_n 2, 1) := by decide +kernel
theorem dX7_register0_7 : decode cX7_register0 7 = .ok (.iadd, 1) := by decide +kernel
theorem dX7_register0_8 : decode cX7_register0 8 = .ok (.invokestatic 22, 3) := by decide +kernel
theorem dX7_register0_11 : decode cX7_register0 11 = .ok (.iaload, 1) := by decide +kernel
theorem dX7_register0_12 : decode cX7_register0 12 = .ok (.ireturn, 1) := by decide +kernel
set_option maxRecDepth 20000 in
theorem ggX7_puts_X7_at : GoodIn wsX7_puts wsX7_at := goodIn_r _ [5] (by decide +kernel) (by decide +kernel)
set_option maxRecDepth 20000 in
theorem gX7_puts_X7_at : GoodIn wsX7_puts (va_wsS RX7 22 yX7_at wsX7_at) := goodIn_app (goodIn_of _ (by decide +kernel)) ggX7_puts_X7_at
theorem dX7_puts_0 : decode cX7_puts 0 = .ok (.aload_n 0, 1) := by decide +kernel
theorem dX7_puts_1 : decode cX7_puts 1 = .ok (.getfield 7, 3) := by decide +kernel
theorem dX7_puts_4 : decode cX7_puts 4 = .ok (.iload_n 1, 1) := by decide +kernel
theorem dX7_puts_5 : decode cX7_puts 5 = .ok (.iconst 2, 1) := by decide +kernel
theorem dX7_puts_6 : decode cX7_puts 6 = .ok (.iload_n 2, 1) := by decide +kernel
theorem dX7_puts_7 : decode cX7_puts 7 = .ok (.iadd, 1) := by decide +kernel
theorem dX7_puts_8 : decode cX7_puts 8 = .ok (.invokestatic 22, 3) := by decide +kernel
theorem dX7_puts_11 : decode cX7_puts 11 = .ok (.iload_n 3, 1) := by decide +kernel
theorem dX7_puts_12 : decode cX7_puts 12 = .ok (.i2s, 1) := by decide +kernel
theorem dX7_puts_13 : decode cX7_puts 13 = .ok (.iastore, 1) := by decide +kernel
theorem dX7_puts_14 : decode cX7_puts 14 = .ok (.return_, 1) := by decide +kernel
set_option maxRecDepth 20000 in
theorem ggX7_jumps_X7_at : GoodIn wsX7_jumps wsX7_at := goodIn_r _ [5] (by decide +kernel) (by decide +kernel)
set_option maxRecDepth 20000 in
theorem gX7_jumps_X7_at : GoodIn wsX7_jumps (va_wsS RX7 22 yX7_at wsX7_at) := goodIn_app (goodIn_of _ (by decide +kernel)) ggX7_jumps_X7_at
theorem dX7_jumps_0 : decode cX7_jumps 0 = .ok (.aload_n 0, 1) := by decide +kernel
theorem dX7_jumps_1 : decode cX7_jumps 1 = .ok (.getfield 7, 3) := by decide +kernel
theorem dX7_jumps_4 : decode cX7_jumps 4 = .ok (.iload_n 1, 1) := by decide +kernel
theorem dX7_jumps_5 : decode cX7_jumps 5 = .ok (.iconst 1, 1) := by decide +kernel
theorem dX7_jumps_6 : decode cX7_jumps 6 = .ok (.invokestatic 22, 3) := by decide +kernel
theorem dX7_jumps_9 : decode cX7_jumps 9 = .ok (.iload_n 3, 1) := by decide +kernel
theorem dX7_jumps_10 : decode cX7_jumps 10 = .ok (.ifCond .eq 7, 3) := by decide +kernel
theorem dX7_jumps_13 : decode cX7_jumps 13 = .ok (.iload_n 2, 1) := by decide +kernel
theorem dX7_jumps_14 : decode cX7_jumps 14 = .ok (.goto 13, 3) := by decide +kernel
theorem dX7_jumps_17 : decode cX7_jumps 17 = .ok (.aload_n 0, 1) := by decide +kernel
theorem dX7_jumps_18 : decode cX7_jumps 18 = .ok (.getfield 7, 3) := by decide +kernel
theorem dX7_jumps_21 : decode cX7_jumps 21 = .ok (.iload_n 1, 1) := by decide +kernel
theorem dX7_jumps_22 : decode cX7_jumps 22 = .ok (.iconst 1, 1) := by decide +kernel
theorem dX7_jumps_23 : decode cX7_jumps 23 = .ok (.invokestatic 22, 3) := by decide +kernel
theorem dX7_jumps_26 : decode cX7_jumps 26 = .ok (.iaload, 1) := by decide +kernel
theorem dX7_jumps_27 : decode cX7_jumps 27 = .ok (.iastore, 1) := by decide +kernel
theorem dX7_jumps_28 : decode cX7_jumps 28 = .ok (.return_, 1) := by decide +kernel
set_option maxRecDepth 20000 in
theorem ggX7_does_X7_in : GoodIn wsX7_does wsX7_in := goodIn_r _ [5] (by decide +kernel) (by decide +kernel)
set_option maxRecDepth 20000 in
theorem gX7_does_X7_in : GoodIn wsX7_does (va_wsS RX7 26 yX7_in wsX7_in) := goodIn_app (goodIn_of _ (by decide +kernel)) ggX7_does_X7_in
set_option maxRecDepth 20000 in
theorem ggX7_does_X7_register0 : GoodIn wsX7_does wsX7_register0 := goodIn_r _ [9, 1, 10, 11, 4, 12, 21, 22, 23, 24, 25, 26, 27, 28, 29, 30, 31] (by decide +kernel) (by decide +kernel)
set_option maxRecDepth 20000 in
theorem gX7_does_X7_register0 : GoodIn wsX7_does (wsV RX7 34 RX7 yX7_register0 wsX7_register0) := goodIn_app (goodIn_of _ (by decide +kernel)) ggX7_does_X7_register0
set_option maxRecDepth 20000 in
theorem ggX7_does_X7_puts : GoodIn wsX7_does wsX7_puts := goodIn_r _ [16, 1, 10, 11, 4, 12, 21, 22, 23, 24, 25, 26, 27, 28, 29, 30, 31] (by decide +kernel) (by decide +kernel)
set_option maxRecDepth 20000 in
theorem gX7_does_X7_puts : GoodIn wsX7_does (wsV RX7 37 RX7 yX7_puts wsX7_puts) := goodIn_app (goodIn_of _ (by decide +kernel)) ggX7_does_X7_puts
set_option maxRecDepth 20000 in
theorem ggX7_does_X7_at : GoodIn wsX7_does wsX7_at := goodIn_r _ [12] (by decide +kernel) (by decide +kernel)
set_option maxRecDepth 20000 in
theorem gX7_does_X7_at : GoodIn wsX7_does (va_wsS RX7 22 yX7_at wsX7_at) := goodIn_app (goodIn_of _ (by decide +kernel)) ggX7_does_X7_at
set_option maxRecDepth 20000 in
theorem ggX7_does_X7_jumps : GoodIn wsX7_does wsX7_jumps := goodIn_r _ [20, 1, 10, 11, 4, 12, 21, 22, 23, 24, 25, 26, 27, 28, 29, 30, 31] (by decide +kernel) (by decide +kernel)
set_option maxRecDepth 20000 in
theorem gX7_does_X7_jumps : GoodIn wsX7_does (wsV RX7 41 RX7 yX7_jumps wsX7_jumps) := goodIn_app (goodIn_of _ (by decide +kernel)) ggX7_does_X7_jumps
theorem dX7_does_0 : decode cX7_does 0 = .ok (.iload 4, 2) := by decide +kernel
theorem dX7_does_2 : decode cX7_does 2 = .ok (.iconst 0, 1) := by decide +kernel
theorem dX7_does_3 : decode cX7_does 3 = .ok (.iconst 3, 1) := by decide +kernel
theorem dX7_does_4 : decode cX7_does 4 = .ok (.invokestatic 26, 3) := by decide +kernel
theorem dX7_does_7 : decode cX7_does 7 = .ok (.ifCond .eq 20, 3) := by decide +kernel
theorem dX7_does_10 : decode cX7_does 10 = .ok (.sipush 200, 3) := by decide +kernel
theorem dX7_does_13 : decode cX7_does 13 = .ok (.aload_n 0, 1) := by decide +kernel
theorem dX7_does_14 : decode cX7_does 14 = .ok (.iload_n 1, 1) := by decide +kernel
theorem dX7_does_15 : decode cX7_does 15 = .ok (.iload 4, 2) := by decide +kernel
theorem dX7_does_17 : decode cX7_does 17 = .ok (.invokevirtual 34, 3) := by decide +kernel
theorem dX7_does_20 : decode cX7_does 20 = .ok (.bipush 31, 2) := by decide +kernel
theorem dX7_does_22 : decode cX7_does 22 = .ok (.iand, 1) := by decide +kernel
theorem dX7_does_23 : decode cX7_does 23 = .ok (.iadd, 1) := by decide +kernel
theorem dX7_does_24 : decode cX7_does 24 = .ok (.goto 6, 3) := by decide +kernel
theorem dX7_does_27 : decode cX7_does 27 = .ok (.sipush 200, 3) := by decide +kernel
theorem dX7_does_30 : decode cX7_does 30 = .ok (.istore 5, 2) := by decide +kernel
theorem dX7_does_32 : decode cX7_does 32 = .ok (.iload_n 2, 1) := by decide +kernel
theorem dX7_does_33 : decode cX7_does 33 = .ok (.tableswitch 329 0 10 #[59, 70, 93, 116, 139, 208, 224, 257, 267, 291, 315], 59) := by decide +kernel
theorem dX7_does_92 : decode cX7_does 92 = .ok (.aload_n 0, 1) := by decide +kernel
theorem dX7_does_93 : decode cX7_does 93 = .ok (.iload_n 1, 1) := by decide +kernel
theorem dX7_does_94 : decode cX7_does 94 = .ok (.iload_n 3, 1) := by decide +kernel
theorem dX7_does_95 : decode cX7_does 95 = .ok (.iload 4, 2) := by decide +kernel
theorem dX7_does_97 : decode cX7_does 97 = .ok (.invokevirtual 37, 3) := by decide +kernel
theorem dX7_does_100 : decode cX7_does 100 = .ok (.goto 273, 3) := by decide +kernel
theorem dX7_does_103 : decode cX7_does 103 = .ok (.aload_n 0, 1) := by decide +kernel
theorem dX7_does_104 : decode cX7_does 104 = .ok (.iload_n 1, 1) := by decide +kernel
theorem dX7_does_105 : decode cX7_does 105 = .ok (.iload_n 3, 1) := by decide +kernel
theorem dX7_does_106 : decode cX7_does 106 = .ok (.aload_n 0, 1) := by decide +kernel
theorem dX7_does_107 : decode cX7_does 107 = .ok (.iload_n 1, 1) := by decide +kernel
theorem dX7_does_108 : decode cX7_does 108 = .ok (.iload_n 3, 1) := by decide +kernel
theorem dX7_does_109 : decode cX7_does 109 = .ok (.invokevirtual 34, 3) := by decide +kernel
theorem dX7_does_112 : decode cX7_does 112 = .ok (.aload_n 0, 1) := by decide +kernel
theorem dX7_does_113 : decode cX7_does 113 = .ok (.iload_n 1, 1) := by decide +kernel
theorem dX7_does_114 : decode cX7_does 114 = .ok (.iload 4, 2) := by decide +kernel
theorem dX7_does_116 : decode cX7_does 116 = .ok (.invokevirtual 34, 3) := by decide +kernel
theorem dX7_does_119 : decode cX7_does 119 = .ok (.iadd, 1) := by decide +kernel
theorem dX7_does_120 : decode cX7_does 120 = .ok (.invokevirtual 37, 3) := by decide +kernel
theorem dX7_does_123 : decode cX7_does 123 = .ok (.goto 250, 3) := by decide +kernel
theorem dX7_does_126 : decode cX7_does 126 = .ok (.aload_n 0, 1) := by decide +kernel
theorem dX7_does_127 : decode cX7_does 127 = .ok (.iload_n 1, 1) := by decide +kernel
theorem dX7_does_128 : decode cX7_does 128 = .ok (.iload_n 3, 1) := by decide +kernel
theorem dX7_does_129 : decode cX7_does 129 = .ok (.aload_n 0, 1) := by decide +kernel
theorem dX7_does_130 : decode cX7_does 130 = .ok (.iload_n 1, 1) := by decide +kernel
theorem dX7_does_131 : decode cX7_does 131 = .ok (.iload_n 3, 1) := by decide +kernel
theorem dX7_does_132 : decode cX7_does 132 = .ok (.invokevirtual 34, 3) := by decide +kernel
theorem dX7_does_135 : decode cX7_does 135 = .ok (.aload_n 0, 1) := by decide +kernel
theorem dX7_does_136 : decode cX7_does 136 = .ok (.iload_n 1, 1) := by decide +kernel
theorem dX7_does_137 : decode cX7_does 137 = .ok (.iload 4, 2) := by decide +kernel
theorem dX7_does_139 : decode cX7_does 139 = .ok (.invokevirtual 34, 3) := by decide +kernel
theorem dX7_does_142 : decode cX7_does 142 = .ok (.isub, 1) := by decide +kernel
theorem dX7_does_143 : decode cX7_does 143 = .ok (.invokevirtual 37, 3) := by decide +kernel
theorem dX7_does_146 : decode cX7_does 146 = .ok (.goto 227, 3) := by decide +kernel
theorem dX7_does_149 : decode cX7_does 149 = .ok (.aload_n 0, 1) := by decide +kernel
theorem dX7_does_150 : decode cX7_does 150 = .ok (.iload_n 1, 1) := by decide +kernel
theorem dX7_does_151 : decode cX7_does 151 = .ok (.iload_n 3, 1) := by decide +kernel
theorem dX7_does_152 : decode cX7_does 152 = .ok (.aload_n 0, 1) := by decide +kernel
theorem dX7_does_153 : decode cX7_does 153 = .ok (.iload_n 1, 1) := by decide +kernel
theorem dX7_does_154 : decode cX7_does 154 = .ok (.iload_n 3, 1) := by decide +kernel
theorem dX7_does_155 : decode cX7_does 155 = .ok (.invokevirtual 34, 3) := by decide +kernel
theorem dX7_does_158 : decode cX7_does 158 = .ok (.aload_n 0, 1) := by decide +kernel
theorem dX7_does_159 : decode cX7_does 159 = .ok (.iload_n 1, 1) := by decide +kernel
theorem dX7_does_160 : decode cX7_does 160 = .ok (.iload 4, 2) := by decide +kernel
theorem dX7_does_162 : decode cX7_does 162 = .ok (.invokevirtual 34, 3) := by decide +kernel
theorem dX7_does_165 : decode cX7_does 165 = .ok (.imul, 1) := by decide +kernel
theorem dX7_does_166 : decode cX7_does 166 = .ok (.invokevirtual 37, 3) := by decide +kernel
theorem dX7_does_169 : decode cX7_does 169 = .ok (.goto 204, 3) := by decide +kernel
theorem dX7_does_172 : decode cX7_does 172 = .ok (.aload_n 0, 1) := by decide +kernel
theorem dX7_does_173 : decode cX7_does 173 = .ok (.getfield 7, 3) := by decide +kernel
theorem dX7_does_176 : decode cX7_does 176 = .ok (.iload_n 1, 1) := by decide +kernel
theorem dX7_does_177 : decode cX7_does 177 = .ok (.iconst 0, 1) := by decide +kernel
theorem dX7_does_178 : decode cX7_does 178 = .ok (.invokestatic 22, 3) := by decide +kernel
theorem dX7_does_181 : decode cX7_does 181 = .ok (.iconst 2, 1) := by decide +kernel
theorem dX7_does_182 : decode cX7_does 182 = .ok (.iastore, 1) := by decide +kernel
theorem dX7_does_183 : decode cX7_does 183 = .ok (.aload_n 0, 1) := by decide +kernel
theorem dX7_does_184 : decode cX7_does 184 = .ok (.getfield 7, 3) := by decide +kernel
theorem dX7_does_187 : decode cX7_does 187 = .ok (.iload_n 1, 1) := by decide +kernel
theorem dX7_does_188 : decode cX7_does 188 = .ok (.bipush 6, 2) := by decide +kernel
theorem dX7_does_190 : decode cX7_does 190 = .ok (.invokestatic 22, 3) := by decide +kernel
theorem dX7_does_193 : decode cX7_does 193 = .ok (.iload_n 3, 1) := by decide +kernel
theorem dX7_does_194 : decode cX7_does 194 = .ok (.iastore, 1) := by decide +kernel
theorem dX7_does_195 : decode cX7_does 195 = .ok (.aload_n 0, 1) := by decide +kernel
theorem dX7_does_196 : decode cX7_does 196 = .ok (.getfield 7, 3) := by decide +kernel
theorem dX7_does_199 : decode cX7_does 199 = .ok (.iload_n 1, 1) := by decide +kernel
theorem dX7_does_200 : decode cX7_does 200 = .ok (.bipush 7, 2) := by decide +kernel
theorem dX7_does_202 : decode cX7_does 202 = .ok (.invokestatic 22, 3) := by decide +kernel
theorem dX7_does_205 : decode cX7_does 205 = .ok (.iload 5, 2) := by decide +kernel
theorem dX7_does_207 : decode cX7_does 207 = .ok (.iastore, 1) := by decide +kernel
theorem dX7_does_208 : decode cX7_does 208 = .ok (.aload_n 0, 1) := by decide +kernel
theorem dX7_does_209 : decode cX7_does 209 = .ok (.getfield 7, 3) := by decide +kernel
theorem dX7_does_212 : decode cX7_does 212 = .ok (.iload_n 1, 1) := by decide +kernel
theorem dX7_does_213 : decode cX7_does 213 = .ok (.bipush 8, 2) := by decide +kernel
theorem dX7_does_215 : decode cX7_does 215 = .ok (.invokestatic 22, 3) := by decide +kernel
theorem dX7_does_218 : decode cX7_does 218 = .ok (.aload_n 0, 1) := by decide +kernel
theorem dX7_does_219 : decode cX7_does 219 = .ok (.getfield 7, 3) := by decide +kernel
theorem dX7_does_222 : decode cX7_does 222 = .ok (.sipush 232, 3) := by decide +kernel
theorem dX7_does_225 : decode cX7_does 225 = .ok (.iaload, 1) := by decide +kernel
theorem dX7_does_226 : decode cX7_does 226 = .ok (.iconst 1, 1) := by decide +kernel
theorem dX7_does_227 : decode cX7_does 227 = .ok (.iadd, 1) := by decide +kernel
theorem dX7_does_228 : decode cX7_does 228 = .ok (.aload_n 0, 1) := by decide +kernel
theorem dX7_does_229 : decode cX7_does 229 = .ok (.getfield 7, 3) := by decide +kernel
theorem dX7_does_232 : decode cX7_does 232 = .ok (.sipush 242, 3) := by decide +kernel
theorem dX7_does_235 : decode cX7_does 235 = .ok (.iaload, 1) := by decide +kernel
theorem dX7_does_236 : decode cX7_does 236 = .ok (.iadd, 1) := by decide +kernel
theorem dX7_does_237 : decode cX7_does 237 = .ok (.iastore, 1) := by decide +kernel
theorem dX7_does_238 : decode cX7_does 238 = .ok (.goto 135, 3) := by decide +kernel
theorem dX7_does_241 : decode cX7_does 241 = .ok (.aload_n 0, 1) := by decide +kernel
theorem dX7_does_242 : decode cX7_does 242 = .ok (.getfield 7, 3) := by decide +kernel
theorem dX7_does_245 : decode cX7_does 245 = .ok (.iload 5, 2) := by decide +kernel
theorem dX7_does_247 : decode cX7_does 247 = .ok (.aload_n 0, 1) := by decide +kernel
theorem dX7_does_248 : decode cX7_does 248 = .ok (.iload_n 1, 1) := by decide +kernel
theorem dX7_does_249 : decode cX7_does 249 = .ok (.iload_n 3, 1) := by decide +kernel
theorem dX7_does_250 : decode cX7_does 250 = .ok (.invokevirtual 34, 3) := by decide +kernel
theorem dX7_does_253 : decode cX7_does 253 = .ok (.iastore, 1) := by decide +kernel
theorem dX7_does_254 : decode cX7_does 254 = .ok (.goto 119, 3) := by decide +kernel
theorem dX7_does_257 : decode cX7_does 257 = .ok (.aload_n 0, 1) := by decide +kernel
theorem dX7_does_258 : decode cX7_does 258 = .ok (.iload_n 1, 1) := by decide +kernel
theorem dX7_does_259 : decode cX7_does 259 = .ok (.iload_n 3, 1) := by decide +kernel
theorem dX7_does_260 : decode cX7_does 260 = .ok (.invokevirtual 34, 3) := by decide +kernel
theorem dX7_does_263 : decode cX7_does 263 = .ok (.istore 6, 2) := by decide +kernel
theorem dX7_does_265 : decode cX7_does 265 = .ok (.aload_n 0, 1) := by decide +kernel
theorem dX7_does_266 : decode cX7_does 266 = .ok (.iload_n 1, 1) := by decide +kernel
theorem dX7_does_267 : decode cX7_does 267 = .ok (.iload_n 3, 1) := by decide +kernel
theorem dX7_does_268 : decode cX7_does 268 = .ok (.aload_n 0, 1) := by decide +kernel
theorem dX7_does_269 : decode cX7_does 269 = .ok (.getfield 7, 3) := by decide +kernel
theorem dX7_does_272 : decode cX7_does 272 = .ok (.iload 5, 2) := by decide +kernel
theorem dX7_does_274 : decode cX7_does 274 = .ok (.iaload, 1) := by decide +kernel
theorem dX7_does_275 : decode cX7_does 275 = .ok (.invokevirtual 37, 3) := by decide +kernel
theorem dX7_does_278 : decode cX7_does 278 = .ok (.aload_n 0, 1) := by decide +kernel
theorem dX7_does_279 : decode cX7_does 279 = .ok (.getfield 7, 3) := by decide +kernel
theorem dX7_does_282 : decode cX7_does 282 = .ok (.iload 5, 2) := by decide +kernel
theorem dX7_does_284 : decode cX7_does 284 = .ok (.iload 6, 2) := by decide +kernel
theorem dX7_does_286 : decode cX7_does 286 = .ok (.iastore, 1) := by decide +kernel
theorem dX7_does_287 : decode cX7_does 287 = .ok (.goto 86, 3) := by decide +kernel
theorem dX7_does_290 : decode cX7_does 290 = .ok (.aload_n 0, 1) := by decide +kernel
theorem dX7_does_291 : decode cX7_does 291 = .ok (.iload_n 1, 1) := by decide +kernel
theorem dX7_does_292 : decode cX7_does 292 = .ok (.iload_n 3, 1) := by decide +kernel
theorem dX7_does_293 : decode cX7_does 293 = .ok (.iconst 1, 1) := by decide +kernel
theorem dX7_does_294 : decode cX7_does 294 = .ok (.invokevirtual 41, 3) := by decide +kernel
theorem dX7_does_297 : decode cX7_does 297 = .ok (.goto 76, 3) := by decide +kernel
theorem dX7_does_300 : decode cX7_does 300 = .ok (.aload_n 0, 1) := by decide +kernel
theorem dX7_does_301 : decode cX7_does 301 = .ok (.iload_n 1, 1) := by decide +kernel
theorem dX7_does_302 : decode cX7_does 302 = .ok (.iload 4, 2) := by decide +kernel
theorem dX7_does_304 : decode cX7_does 304 = .ok (.aload_n 0, 1) := by decide +kernel
theorem dX7_does_305 : decode cX7_does 305 = .ok (.iload_n 1, 1) := by decide +kernel
theorem dX7_does_306 : decode cX7_does 306 = .ok (.iload_n 3, 1) := by decide +kernel
theorem dX7_does_307 : decode cX7_does 307 = .ok (.invokevirtual 34, 3) := by decide +kernel
theorem dX7_does_310 : decode cX7_does 310 = .ok (.ifCond .ne 7, 3) := by decide +kernel
theorem dX7_does_313 : decode cX7_does 313 = .ok (.iconst 1, 1) := by decide +kernel
theorem dX7_does_314 : decode cX7_does 314 = .ok (.goto 4, 3) := by decide +kernel
theorem dX7_does_317 : decode cX7_does 317 = .ok (.iconst 0, 1) := by decide +kernel
theorem dX7_does_318 : decode cX7_does 318 = .ok (.invokevirtual 41, 3) := by decide +kernel
theorem dX7_does_321 : decode cX7_does 321 = .ok (.goto 52, 3) := by decide +kernel
theorem dX7_does_324 : decode cX7_does 324 = .ok (.aload_n 0, 1) := by decide +kernel
theorem dX7_does_325 : decode cX7_does 325 = .ok (.iload_n 1, 1) := by decide +kernel
theorem dX7_does_326 : decode cX7_does 326 = .ok (.iload 4, 2) := by decide +kernel
theorem dX7_does_328 : decode cX7_does 328 = .ok (.aload_n 0, 1) := by decide +kernel
theorem dX7_does_329 : decode cX7_does 329 = .ok (.iload_n 1, 1) := by decide +kernel
theorem dX7_does_330 : decode cX7_does 330 = .ok (.iload_n 3, 1) := by decide +kernel
theorem dX7_does_331 : decode cX7_does 331 = .ok (.invokevirtual 34, 3) := by decide +kernel
theorem dX7_does_334 : decode cX7_does 334 = .ok (.ifCond .ge 7, 3) := by decide +kernel
theorem dX7_does_337 : decode cX7_does 337 = .ok (.iconst 1, 1) := by decide +kernel
theorem dX7_does_338 : decode cX7_does 338 = .ok (.goto 4, 3) := by decide +kernel
theorem dX7_does_341 : decode cX7_does 341 = .ok (.iconst 0, 1) := by decide +kernel
theorem dX7_does_342 : decode cX7_does 342 = .ok (.invokevirtual 41, 3) := by decide +kernel
theorem dX7_does_345 : decode cX7_does 345 = .ok (.goto 28, 3) := by decide +kernel
theorem dX7_does_348 : decode cX7_does 348 = .ok (.aload_n 0, 1) := by decide +kernel
theorem dX7_does_349 : decode cX7_does 349 = .ok (.getfield 7, 3) := by decide +kernel
theorem dX7_does_352 : decode cX7_does 352 = .ok (.iload_n 1, 1) := by decide +kernel
theorem dX7_does_353 : decode cX7_does 353 = .ok (.iconst 0, 1) := by decide +kernel
theorem dX7_does_354 : decode cX7_does 354 = .ok (.invokestatic 22, 3) := by decide +kernel
theorem dX7_does_357 : decode cX7_does 357 = .ok (.iconst 3, 1) := by decide +kernel
theorem dX7_does_358 : decode cX7_does 358 = .ok (.iastore, 1) := by decide +kernel
theorem dX7_does_359 : decode cX7_does 359 = .ok (.goto 14, 3) := by decide +kernel
theorem dX7_does_362 : decode cX7_does 362 = .ok (.aload_n 0, 1) := by decide +kernel
theorem dX7_does_363 : decode cX7_does 363 = .ok (.getfield 7, 3) := by decide +kernel
theorem dX7_does_366 : decode cX7_does 366 = .ok (.iload_n 1, 1) := by decide +kernel
theorem dX7_does_367 : decode cX7_does 367 = .ok (.iconst 0, 1) := by decide +kernel
theorem dX7_does_368 : decode cX7_does 368 = .ok (.invokestatic 22, 3) := by decide +kernel
theorem dX7_does_371 : decode cX7_does 371 = .ok (.iconst 0, 1) := by decide +kernel
theorem dX7_does_372 : decode cX7_does 372 = .ok (.iastore, 1) := by decide +kernel
theorem dX7_does_373 : decode cX7_does 373 = .ok (.return_, 1) := by decide +kernel
theorem dX7_traces_0 : decode cX7_traces 0 = .ok (.bipush 47, 2) := by decide +kernel
theorem dX7_traces_2 : decode cX7_traces 2 = .ok (.istore_n 3, 1) := by decide +kernel
theorem dX7_traces_3 : decode cX7_traces 3 = .ok (.iload_n 3, 1) := by decide +kernel
theorem dX7_traces_4 : decode cX7_traces 4 = .ok (.iconst 2, 1) := by decide +kernel
theorem dX7_traces_5 : decode cX7_traces 5 = .ok (.if_icmp .le 31, 3) := by decide +kernel
theorem dX7_traces_8 : decode cX7_traces 8 = .ok (.aload_n 0, 1) := by decide +kernel
theorem dX7_traces_9 : decode cX7_traces 9 = .ok (.getfield 7, 3) := by decide +kernel
theorem dX7_traces_12 : decode cX7_traces 12 = .ok (.sipush 293, 3) := by decide +kernel
theorem dX7_traces_15 : decode cX7_traces 15 = .ok (.iload_n 3, 1) := by decide +kernel
theorem dX7_traces_16 : decode cX7_traces 16 = .ok (.iadd, 1) := by decide +kernel
theorem dX7_traces_17 : decode cX7_traces 17 = .ok (.aload_n 0, 1) := by decide +kernel
theorem dX7_traces_18 : decode cX7_traces 18 = .ok (.getfield 7, 3) := by decide +kernel
theorem dX7_traces_21 : decode cX7_traces 21 = .ok (.sipush 293, 3) := by decide +kernel
theorem dX7_traces_24 : decode cX7_traces 24 = .ok (.iload_n 3, 1) := by decide +kernel
theorem dX7_traces_25 : decode cX7_traces 25 = .ok (.iadd, 1) := by decide +kernel
theorem dX7_traces_26 : decode cX7_traces 26 = .ok (.iconst 3, 1) := by decide +kernel
theorem dX7_traces_27 : decode cX7_traces 27 = .ok (.isub, 1) := by decide +kernel
theorem dX7_traces_28 : decode cX7_traces 28 = .ok (.iaload, 1) := by decide +kernel
theorem dX7_traces_29 : decode cX7_traces 29 = .ok (.iastore, 1) := by decide +kernel
theorem dX7_traces_30 : decode cX7_traces 30 = .ok (.iinc 3 (-1), 3) := by decide +kernel
theorem dX7_traces_33 : decode cX7_traces 33 = .ok (.goto (-30), 3) := by decide +kernel
theorem dX7_traces_36 : decode cX7_traces 36 = .ok (.aload_n 0, 1) := by decide +kernel
theorem dX7_traces_37 : decode cX7_traces 37 = .ok (.getfield 7, 3) := by decide +kernel
theorem dX7_traces_40 : decode cX7_traces 40 = .ok (.sipush 293, 3) := by decide +kernel
theorem dX7_traces_43 : decode cX7_traces 43 = .ok (.aload_n 0, 1) := by decide +kernel
theorem dX7_traces_44 : decode cX7_traces 44 = .ok (.getfield 7, 3) := by decide +kernel
theorem dX7_traces_47 : decode cX7_traces 47 = .ok (.sipush 232, 3) := by decide +kernel
theorem dX7_traces_50 : decode cX7_traces 50 = .ok (.iaload, 1) := by decide +kernel
theorem dX7_traces_51 : decode cX7_traces 51 = .ok (.iastore, 1) := by decide +kernel
theorem dX7_traces_52 : decode cX7_traces 52 = .ok (.aload_n 0, 1) := by decide +kernel
theorem dX7_traces_53 : decode cX7_traces 53 = .ok (.getfield 7, 3) := by decide +kernel
theorem dX7_traces_56 : decode cX7_traces 56 = .ok (.sipush 294, 3) := by decide +kernel
theorem dX7_traces_59 : decode cX7_traces 59 = .ok (.iload_n 1, 1) := by decide +kernel
theorem dX7_traces_60 : decode cX7_traces 60 = .ok (.iastore, 1) := by decide +kernel
theorem dX7_traces_61 : decode cX7_traces 61 = .ok (.aload_n 0, 1) := by decide +kernel
theorem dX7_traces_62 : decode cX7_traces 62 = .ok (.getfield 7, 3) := by decide +kernel
theorem dX7_traces_65 : decode cX7_traces 65 = .ok (.sipush 295, 3) := by decide +kernel
theorem dX7_traces_68 : decode cX7_traces 68 = .ok (.iload_n 2, 1) := by decide +kernel
theorem dX7_traces_69 : decode cX7_traces 69 = .ok (.iastore, 1) := by decide +kernel
theorem dX7_traces_70 : decode cX7_traces 70 = .ok (.aload_n 0, 1) := by decide +kernel
theorem dX7_traces_71 : decode cX7_traces 71 = .ok (.getfield 7, 3) := by decide +kernel
theorem dX7_traces_74 : decode cX7_traces 74 = .ok (.sipush 292, 3) := by decide +kernel
theorem dX7_traces_77 : decode cX7_traces 77 = .ok (.dup2, 1) := by decide +kernel
theorem dX7_traces_78 : decode cX7_traces 78 = .ok (.iaload, 1) := by decide +kernel
theorem dX7_traces_79 : decode cX7_traces 79 = .ok (.aload_n 0, 1) := by decide +kernel
theorem dX7_traces_80 : decode cX7_traces 80 = .ok (.getfield 7, 3) := by decide +kernel
theorem dX7_traces_83 : decode cX7_traces 83 = .ok (.sipush 292, 3) := by decide +kernel
theorem dX7_traces_86 : decode cX7_traces 86 = .ok (.iaload, 1) := by decide +kernel
theorem dX7_traces_87 : decode cX7_traces 87 = .ok (.bipush 16, 2) := by decide +kernel
theorem dX7_traces_89 : decode cX7_traces 89 = .ok (.if_icmp .ge 7, 3) := by decide +kernel
theorem dX7_traces_92 : decode cX7_traces 92 = .ok (.iconst 1, 1) := by decide +kernel
theorem dX7_traces_93 : decode cX7_traces 93 = .ok (.goto 4, 3) := by decide +kernel
theorem dX7_traces_96 : decode cX7_traces 96 = .ok (.iconst 0, 1) := by decide +kernel
theorem dX7_traces_97 : decode cX7_traces 97 = .ok (.iadd, 1) := by decide +kernel
theorem dX7_traces_98 : decode cX7_traces 98 = .ok (.iastore, 1) := by decide +kernel
theorem dX7_traces_99 : decode cX7_traces 99 = .ok (.return_, 1) := by decide +kernel
set_option maxRecDepth 20000 in
theorem ggX7_executes_X7_at : GoodIn wsX7_executes wsX7_at := goodIn_r _ [5] (by decide +kernel) (by decide +kernel)
set_option maxRecDepth 20000 in
theorem gX7_executes_X7_at : GoodIn wsX7_executes (va_wsS RX7 22 yX7_at wsX7_at) := goodIn_app (goodIn_of _ (by decide +kernel)) ggX7_executes_X7_at
set_option maxRecDepth 20000 in
theorem ggX7_executes_X7_traces : GoodIn wsX7_executes wsX7_traces := goodIn_r _ [9, 1, 29, 30, 31, 32, 33, 34, 35, 36, 37, 38, 39] (by decide +kernel) (by decide +kernel)
set_option maxRecDepth 20000 in
theorem gX7_executes_X7_traces : GoodIn wsX7_executes (wsV RX7 45 RX7 yX7_traces wsX7_traces) := goodIn_app (goodIn_of _ (by decide +kernel)) ggX7_executes_X7_traces
set_option maxRecDepth 20000 in
theorem ggX7_executes_X7_does : GoodIn wsX7_executes wsX7_does := goodIn_r _ [13, 1, 14, 15, 4, 16, 17, 18, 19, 20, 2, 3, 5, 21, 22, 23, 24, 25, 26, 27, 28, 29, 30, 31, 32, 33, 34, 35, 36, 37, 38, 39] (by decide +kernel) (by decide +kernel)
set_option maxRecDepth 20000 in
theorem gX7_executes_X7_does : GoodIn wsX7_executes (wsV RX7 49 RX7 yX7_does wsX7_does) := goodIn_app (goodIn_of _ (by decide +kernel)) ggX7_executes_X7_does
theorem dX7_executes_0 : decode cX7_executes 0 = .ok (.aload_n 0, 1) := by decide +kernel
theorem dX7_executes_1 : decode cX7_executes 1 = .ok (.getfield 7, 3) := by decide +kernel
theorem dX7_executes_4 : decode cX7_executes 4 = .ok (.iload_n 1, 1) := by decide +kernel
theorem dX7_executes_5 : decode cX7_executes 5 = .ok (.iconst 1, 1) := by decide +kernel
theorem dX7_executes_6 : decode cX7_executes 6 = .ok (.invokestatic 22, 3) := by decide +kernel
theorem dX7_executes_9 : decode cX7_executes 9 = .ok (.iaload, 1) := by decide +kernel
theorem dX7_executes_10 : decode cX7_executes 10 = .ok (.istore_n 2, 1) := by decide +kernel
theorem dX7_executes_11 : decode cX7_executes 11 = .ok (.aload_n 0, 1) := by decide +kernel
theorem dX7_executes_12 : decode cX7_executes 12 = .ok (.iload_n 1, 1) := by decide +kernel
theorem dX7_executes_13 : decode cX7_executes 13 = .ok (.iload_n 2, 1) := by decide +kernel
theorem dX7_executes_14 : decode cX7_executes 14 = .ok (.invokevirtual 45, 3) := by decide +kernel
theorem dX7_executes_17 : decode cX7_executes 17 = .ok (.iload_n 2, 1) := by decide +kernel
theorem dX7_executes_18 : decode cX7_executes 18 = .ok (.bipush 48, 2) := by decide +kernel
theorem dX7_executes_20 : decode cX7_executes 20 = .ok (.if_icmp .ne 15, 3) := by decide +kernel
theorem dX7_executes_23 : decode cX7_executes 23 = .ok (.aload_n 0, 1) := by decide +kernel
theorem dX7_executes_24 : decode cX7_executes 24 = .ok (.getfield 7, 3) := by decide +kernel
theorem dX7_executes_27 : decode cX7_executes 27 = .ok (.iload_n 1, 1) := by decide +kernel
theorem dX7_executes_28 : decode cX7_executes 28 = .ok (.iconst 0, 1) := by decide +kernel
theorem dX7_executes_29 : decode cX7_executes 29 = .ok (.invokestatic 22, 3) := by decide +kernel
theorem dX7_executes_32 : decode cX7_executes 32 = .ok (.iconst 0, 1) := by decide +kernel
theorem dX7_executes_33 : decode cX7_executes 33 = .ok (.iastore, 1) := by decide +kernel
theorem dX7_executes_34 : decode cX7_executes 34 = .ok (.return_, 1) := by decide +kernel
theorem dX7_executes_35 : decode cX7_executes 35 = .ok (.aload_n 0, 1) := by decide +kernel
theorem dX7_executes_36 : decode cX7_executes 36 = .ok (.getfield 7, 3) := by decide +kernel
theorem dX7_executes_39 : decode cX7_executes 39 = .ok (.iload_n 1, 1) := by decide +kernel
theorem dX7_executes_40 : decode cX7_executes 40 = .ok (.iconst 1, 1) := by decide +kernel
theorem dX7_executes_41 : decode cX7_executes 41 = .ok (.invokestatic 22, 3) := by decide +kernel
theorem dX7_executes_44 : decode cX7_executes 44 = .ok (.iload_n 2, 1) := by decide +kernel
theorem dX7_executes_45 : decode cX7_executes 45 = .ok (.iconst 1, 1) := by decide +kernel
theorem dX7_executes_46 : decode cX7_executes 46 = .ok (.iadd, 1) := by decide +kernel
theorem dX7_executes_47 : decode cX7_executes 47 = .ok (.iastore, 1) := by decide +kernel
theorem dX7_executes_48 : decode cX7_executes 48 = .ok (.aload_n 0, 1) := by decide +kernel
theorem dX7_executes_49 : decode cX7_executes 49 = .ok (.iload_n 1, 1) := by decide +kernel
theorem dX7_executes_50 : decode cX7_executes 50 = .ok (.aload_n 0, 1) := by decide +kernel
theorem dX7_executes_51 : decode cX7_executes 51 = .ok (.getfield 7, 3) := by decide +kernel
theorem dX7_executes_54 : decode cX7_executes 54 = .ok (.bipush 56, 2) := by decide +kernel
theorem dX7_executes_56 : decode cX7_executes 56 = .ok (.iconst 3, 1) := by decide +kernel
theorem dX7_executes_57 : decode cX7_executes 57 = .ok (.iload_n 2, 1) := by decide +kernel
theorem dX7_executes_58 : decode cX7_executes 58 = .ok (.imul, 1) := by decide +kernel
theorem dX7_executes_59 : decode cX7_executes 59 = .ok (.iadd, 1) := by decide +kernel
theorem dX7_executes_60 : decode cX7_executes 60 = .ok (.iaload, 1) := by decide +kernel
theorem dX7_executes_61 : decode cX7_executes 61 = .ok (.aload_n 0, 1) := by decide +kernel
theorem dX7_executes_62 : decode cX7_executes 62 = .ok (.getfield 7, 3) := by decide +kernel
theorem dX7_executes_65 : decode cX7_executes 65 = .ok (.bipush 56, 2) := by decide +kernel
theorem dX7_executes_67 : decode cX7_executes 67 = .ok (.iconst 3, 1) := by decide +kernel
theorem dX7_executes_68 : decode cX7_executes 68 = .ok (.iload_n 2, 1) := by decide +kernel
theorem dX7_executes_69 : decode cX7_executes 69 = .ok (.imul, 1) := by decide +kernel
theorem dX7_executes_70 : decode cX7_executes 70 = .ok (.iadd, 1) := by decide +kernel
theorem dX7_executes_71 : decode cX7_executes 71 = .ok (.iconst 1, 1) := by decide +kernel
theorem dX7_executes_72 : decode cX7_executes 72 = .ok (.iadd, 1) := by decide +kernel
theorem dX7_executes_73 : decode cX7_executes 73 = .ok (.iaload, 1) := by decide +kernel
theorem dX7_executes_74 : decode cX7_executes 74 = .ok (.aload_n 0, 1) := by decide +kernel
theorem dX7_executes_75 : decode cX7_executes 75 = .ok (.getfield 7, 3) := by decide +kernel
theorem dX7_executes_78 : decode cX7_executes 78 = .ok (.bipush 56, 2) := by decide +kernel
theorem dX7_executes_80 : decode cX7_executes 80 = .ok (.iconst 3, 1) := by decide +kernel
theorem dX7_executes_81 : decode cX7_executes 81 = .ok (.iload_n 2, 1) := by decide +kernel
theorem dX7_executes_82 : decode cX7_executes 82 = .ok (.imul, 1) := by decide +kernel
theorem dX7_executes_83 : decode cX7_executes 83 = .ok (.iadd, 1) := by decide +kernel
theorem dX7_executes_84 : decode cX7_executes 84 = .ok (.iconst 2, 1) := by decide +kernel
theorem dX7_executes_85 : decode cX7_executes 85 = .ok (.iadd, 1) := by decide +kernel
theorem dX7_executes_86 : decode cX7_executes 86 = .ok (.iaload, 1) := by decide +kernel
theorem dX7_executes_87 : decode cX7_executes 87 = .ok (.invokevirtual 49, 3) := by decide +kernel
theorem dX7_executes_90 : decode cX7_executes 90 = .ok (.return_, 1) := by decide +kernel
set_option maxRecDepth 20000 in
theorem ggX7_many_X7_at : GoodIn wsX7_many wsX7_at := goodIn_r _ [5] (by decide +kernel) (by decide +kernel)
set_option maxRecDepth 20000 in
theorem gX7_many_X7_at : GoodIn wsX7_many (va_wsS RX7 22 yX7_at wsX7_at) := goodIn_app (goodIn_of _ (by decide +kernel)) ggX7_many_X7_at
theorem dX7_many_0 : decode cX7_many 0 = .ok (.iconst 0, 1) := by decide +kernel
theorem dX7_many_1 : decode cX7_many 1 = .ok (.istore_n 2, 1) := by decide +kernel
theorem dX7_many_2 : decode cX7_many 2 = .ok (.iconst 0, 1) := by decide +kernel
theorem dX7_many_3 : decode cX7_many 3 = .ok (.istore_n 3, 1) := by decide +kernel
theorem dX7_many_4 : decode cX7_many 4 = .ok (.iload_n 3, 1) := by decide +kernel
theorem dX7_many_5 : decode cX7_many 5 = .ok (.iconst 4, 1) := by decide +kernel
theorem dX7_many_6 : decode cX7_many 6 = .ok (.if_icmp .ge 31, 3) := by decide +kernel
theorem dX7_many_9 : decode cX7_many 9 = .ok (.iload_n 2, 1) := by decide +kernel
theorem dX7_many_10 : decode cX7_many 10 = .ok (.aload_n 0, 1) := by decide +kernel
theorem dX7_many_11 : decode cX7_many 11 = .ok (.getfield 7, 3) := by decide +kernel
theorem dX7_many_14 : decode cX7_many 14 = .ok (.iload_n 3, 1) := by decide +kernel
theorem dX7_many_15 : decode cX7_many 15 = .ok (.iconst 0, 1) := by decide +kernel
theorem dX7_many_16 : decode cX7_many 16 = .ok (.invokestatic 22, 3) := by decide +kernel
theorem dX7_many_19 : decode cX7_many 19 = .ok (.iaload, 1) := by decide +kernel
theorem dX7_many_20 : decode cX7_many 20 = .ok (.iload_n 1, 1) := by decide +kernel
theorem dX7_many_21 : decode cX7_many 21 = .ok (.if_icmp .ne 7, 3) := by decide +kernel
theorem dX7_many_24 : decode cX7_many 24 = .ok (.iconst 1, 1) := by decide +kernel
theorem dX7_many_25 : decode cX7_many 25 = .ok (.goto 4, 3) := by decide +kernel
theorem dX7_many_28 : decode cX7_many 28 = .ok (.iconst 0, 1) := by decide +kernel
theorem dX7_many_29 : decode cX7_many 29 = .ok (.iadd, 1) := by decide +kernel
theorem dX7_many_30 : decode cX7_many 30 = .ok (.istore_n 2, 1) := by decide +kernel
theorem dX7_many_31 : decode cX7_many 31 = .ok (.iinc 3 1, 3) := by decide +kernel
theorem dX7_many_34 : decode cX7_many 34 = .ok (.goto (-30), 3) := by decide +kernel
theorem dX7_many_37 : decode cX7_many 37 = .ok (.iload_n 2, 1) := by decide +kernel
theorem dX7_many_38 : decode cX7_many 38 = .ok (.ireturn, 1) := by decide +kernel
set_option maxRecDepth 20000 in
theorem ggX7_prepares_X7_at : GoodIn wsX7_prepares wsX7_at := goodIn_r _ [5] (by decide +kernel) (by decide +kernel)
set_option maxRecDepth 20000 in
theorem gX7_prepares_X7_at : GoodIn wsX7_prepares (va_wsS RX7 22 yX7_at wsX7_at) := goodIn_app (goodIn_of _ (by decide +kernel)) ggX7_prepares_X7_at
set_option maxRecDepth 20000 in
theorem ggX7_prepares_X7_puts : GoodIn wsX7_prepares wsX7_puts := goodIn_r _ [9, 1, 2, 3, 4, 5, 14, 15, 16, 17, 18, 19, 20, 21, 22, 23, 24] (by decide +kernel) (by decide +kernel)
set_option maxRecDepth 20000 in
theorem gX7_prepares_X7_puts : GoodIn wsX7_prepares (wsV RX7 37 RX7 yX7_puts wsX7_puts) := goodIn_app (goodIn_of _ (by decide +kernel)) ggX7_prepares_X7_puts
set_option maxRecDepth 20000 in
theorem ggX7_prepares_X7_many : GoodIn wsX7_prepares wsX7_many := goodIn_r _ [13, 1, 2, 3, 4, 5, 14, 15, 16, 17, 18, 19, 20, 21, 22, 23, 24] (by decide +kernel) (by decide +kernel)
set_option maxRecDepth 20000 in
theorem gX7_prepares_X7_many : GoodIn wsX7_prepares (wsV RX7 53 RX7 yX7_many wsX7_many) := goodIn_app (goodIn_of _ (by decide +kernel)) ggX7_prepares_X7_many
theorem dX7_prepares_0 : decode cX7_prepares 0 = .ok (.iconst 0, 1) := by decide +kernel
theorem dX7_prepares_1 : decode cX7_prepares 1 = .ok (.istore_n 1, 1) := by decide +kernel
theorem dX7_prepares_2 : decode cX7_prepares 2 = .ok (.iload_n 1, 1) := by decide +kernel
theorem dX7_prepares_3 : decode cX7_prepares 3 = .ok (.iconst 4, 1) := by decide +kernel
theorem dX7_prepares_4 : decode cX7_prepares 4 = .ok (.if_icmp .ge 88, 3) := by decide +kernel
theorem dX7_prepares_7 : decode cX7_prepares 7 = .ok (.aload_n 0, 1) := by decide +kernel
theorem dX7_prepares_8 : decode cX7_prepares 8 = .ok (.getfield 7, 3) := by decide +kernel
theorem dX7_prepares_11 : decode cX7_prepares 11 = .ok (.iload_n 1, 1) := by decide +kernel
theorem dX7_prepares_12 : decode cX7_prepares 12 = .ok (.iconst 0, 1) := by decide +kernel
theorem dX7_prepares_13 : decode cX7_prepares 13 = .ok (.invokestatic 22, 3) := by decide +kernel
theorem dX7_prepares_16 : decode cX7_prepares 16 = .ok (.iaload, 1) := by decide +kernel
theorem dX7_prepares_17 : decode cX7_prepares 17 = .ok (.iconst 2, 1) := by decide +kernel
theorem dX7_prepares_18 : decode cX7_prepares 18 = .ok (.if_icmp .ne 68, 3) := by decide +kernel
theorem dX7_prepares_21 : decode cX7_prepares 21 = .ok (.aload_n 0, 1) := by decide +kernel
theorem dX7_prepares_22 : decode cX7_prepares 22 = .ok (.getfield 7, 3) := by decide +kernel
theorem dX7_prepares_25 : decode cX7_prepares 25 = .ok (.sipush 232, 3) := by decide +kernel
theorem dX7_prepares_28 : decode cX7_prepares 28 = .ok (.iaload, 1) := by decide +kernel
theorem dX7_prepares_29 : decode cX7_prepares 29 = .ok (.aload_n 0, 1) := by decide +kernel
theorem dX7_prepares_30 : decode cX7_prepares 30 = .ok (.getfield 7, 3) := by decide +kernel
theorem dX7_prepares_33 : decode cX7_prepares 33 = .ok (.iload_n 1, 1) := by decide +kernel
theorem dX7_prepares_34 : decode cX7_prepares 34 = .ok (.bipush 8, 2) := by decide +kernel
theorem dX7_prepares_36 : decode cX7_prepares 36 = .ok (.invokestatic 22, 3) := by decide +kernel
theorem dX7_prepares_39 : decode cX7_prepares 39 = .ok (.iaload, 1) := by decide +kernel
theorem dX7_prepares_40 : decode cX7_prepares 40 = .ok (.if_icmp .lt 46, 3) := by decide +kernel
theorem dX7_prepares_43 : decode cX7_prepares 43 = .ok (.aload_n 0, 1) := by decide +kernel
theorem dX7_prepares_44 : decode cX7_prepares 44 = .ok (.iload_n 1, 1) := by decide +kernel
theorem dX7_prepares_45 : decode cX7_prepares 45 = .ok (.aload_n 0, 1) := by decide +kernel
theorem dX7_prepares_46 : decode cX7_prepares 46 = .ok (.getfield 7, 3) := by decide +kernel
theorem dX7_prepares_49 : decode cX7_prepares 49 = .ok (.iload_n 1, 1) := by decide +kernel
theorem dX7_prepares_50 : decode cX7_prepares 50 = .ok (.bipush 6, 2) := by decide +kernel
theorem dX7_prepares_52 : decode cX7_prepares 52 = .ok (.invokestatic 22, 3) := by decide +kernel
theorem dX7_prepares_55 : decode cX7_prepares 55 = .ok (.iaload, 1) := by decide +kernel
theorem dX7_prepares_56 : decode cX7_prepares 56 = .ok (.aload_n 0, 1) := by decide +kernel
theorem dX7_prepares_57 : decode cX7_prepares 57 = .ok (.getfield 7, 3) := by decide +kernel
theorem dX7_prepares_60 : decode cX7_prepares 60 = .ok (.aload_n 0, 1) := by decide +kernel
theorem dX7_prepares_61 : decode cX7_prepares 61 = .ok (.getfield 7, 3) := by decide +kernel
theorem dX7_prepares_64 : decode cX7_prepares 64 = .ok (.iload_n 1, 1) := by decide +kernel
theorem dX7_prepares_65 : decode cX7_prepares 65 = .ok (.bipush 7, 2) := by decide +kernel
theorem dX7_prepares_67 : decode cX7_prepares 67 = .ok (.invokestatic 22, 3) := by decide +kernel
theorem dX7_prepares_70 : decode cX7_prepares 70 = .ok (.iaload, 1) := by decide +kernel
theorem dX7_prepares_71 : decode cX7_prepares 71 = .ok (.iaload, 1) := by decide +kernel
theorem dX7_prepares_72 : decode cX7_prepares 72 = .ok (.invokevirtual 37, 3) := by decide +kernel
theorem dX7_prepares_75 : decode cX7_prepares 75 = .ok (.aload_n 0, 1) := by decide +kernel
theorem dX7_prepares_76 : decode cX7_prepares 76 = .ok (.getfield 7, 3) := by decide +kernel
theorem dX7_prepares_79 : decode cX7_prepares 79 = .ok (.iload_n 1, 1) := by decide +kernel
theorem dX7_prepares_80 : decode cX7_prepares 80 = .ok (.iconst 0, 1) := by decide +kernel
theorem dX7_prepares_81 : decode cX7_prepares 81 = .ok (.invokestatic 22, 3) := by decide +kernel
theorem dX7_prepares_84 : decode cX7_prepares 84 = .ok (.iconst 1, 1) := by decide +kernel
theorem dX7_prepares_85 : decode cX7_prepares 85 = .ok (.iastore, 1) := by decide +kernel
theorem dX7_prepares_86 : decode cX7_prepares 86 = .ok (.iinc 1 1, 3) := by decide +kernel
theorem dX7_prepares_89 : decode cX7_prepares 89 = .ok (.goto (-87), 3) := by decide +kernel
theorem dX7_prepares_92 : decode cX7_prepares 92 = .ok (.aload_n 0, 1) := by decide +kernel
theorem dX7_prepares_93 : decode cX7_prepares 93 = .ok (.iconst 1, 1) := by decide +kernel
theorem dX7_prepares_94 : decode cX7_prepares 94 = .ok (.invokevirtual 53, 3) := by decide +kernel
theorem dX7_prepares_97 : decode cX7_prepares 97 = .ok (.aload_n 0, 1) := by decide +kernel
theorem dX7_prepares_98 : decode cX7_prepares 98 = .ok (.iconst 2, 1) := by decide +kernel
theorem dX7_prepares_99 : decode cX7_prepares 99 = .ok (.invokevirtual 53, 3) := by decide +kernel
theorem dX7_prepares_102 : decode cX7_prepares 102 = .ok (.iadd, 1) := by decide +kernel
theorem dX7_prepares_103 : decode cX7_prepares 103 = .ok (.ifCond .ne 7, 3) := by decide +kernel
theorem dX7_prepares_106 : decode cX7_prepares 106 = .ok (.iconst 1, 1) := by decide +kernel
theorem dX7_prepares_107 : decode cX7_prepares 107 = .ok (.goto 4, 3) := by decide +kernel
theorem dX7_prepares_110 : decode cX7_prepares 110 = .ok (.iconst 0, 1) := by decide +kernel
theorem dX7_prepares_111 : decode cX7_prepares 111 = .ok (.istore_n 1, 1) := by decide +kernel
theorem dX7_prepares_112 : decode cX7_prepares 112 = .ok (.iconst 0, 1) := by decide +kernel
theorem dX7_prepares_113 : decode cX7_prepares 113 = .ok (.istore_n 2, 1) := by decide +kernel
theorem dX7_prepares_114 : decode cX7_prepares 114 = .ok (.iload_n 2, 1) := by decide +kernel
theorem dX7_prepares_115 : decode cX7_prepares 115 = .ok (.iconst 4, 1) := by decide +kernel
theorem dX7_prepares_116 : decode cX7_prepares 116 = .ok (.if_icmp .ge 51, 3) := by decide +kernel
theorem dX7_prepares_119 : decode cX7_prepares 119 = .ok (.aload_n 0, 1) := by decide +kernel
theorem dX7_prepares_120 : decode cX7_prepares 120 = .ok (.getfield 7, 3) := by decide +kernel
theorem dX7_prepares_123 : decode cX7_prepares 123 = .ok (.iload_n 2, 1) := by decide +kernel
theorem dX7_prepares_124 : decode cX7_prepares 124 = .ok (.iconst 0, 1) := by decide +kernel
theorem dX7_prepares_125 : decode cX7_prepares 125 = .ok (.invokestatic 22, 3) := by decide +kernel
theorem dX7_prepares_128 : decode cX7_prepares 128 = .ok (.iload_n 1, 1) := by decide +kernel
theorem dX7_prepares_129 : decode cX7_prepares 129 = .ok (.ifCond .eq 21, 3) := by decide +kernel
theorem dX7_prepares_132 : decode cX7_prepares 132 = .ok (.aload_n 0, 1) := by decide +kernel
theorem dX7_prepares_133 : decode cX7_prepares 133 = .ok (.getfield 7, 3) := by decide +kernel
theorem dX7_prepares_136 : decode cX7_prepares 136 = .ok (.iload_n 2, 1) := by decide +kernel
theorem dX7_prepares_137 : decode cX7_prepares 137 = .ok (.iconst 0, 1) := by decide +kernel
theorem dX7_prepares_138 : decode cX7_prepares 138 = .ok (.invokestatic 22, 3) := by decide +kernel
theorem dX7_prepares_141 : decode cX7_prepares 141 = .ok (.iaload, 1) := by decide +kernel
theorem dX7_prepares_142 : decode cX7_prepares 142 = .ok (.iconst 3, 1) := by decide +kernel
theorem dX7_prepares_143 : decode cX7_prepares 143 = .ok (.if_icmp .ne 7, 3) := by decide +kernel
theorem dX7_prepares_146 : decode cX7_prepares 146 = .ok (.iconst 1, 1) := by decide +kernel
theorem dX7_prepares_147 : decode cX7_prepares 147 = .ok (.goto 13, 3) := by decide +kernel
theorem dX7_prepares_150 : decode cX7_prepares 150 = .ok (.aload_n 0, 1) := by decide +kernel
theorem dX7_prepares_151 : decode cX7_prepares 151 = .ok (.getfield 7, 3) := by decide +kernel
theorem dX7_prepares_154 : decode cX7_prepares 154 = .ok (.iload_n 2, 1) := by decide +kernel
theorem dX7_prepares_155 : decode cX7_prepares 155 = .ok (.iconst 0, 1) := by decide +kernel
theorem dX7_prepares_156 : decode cX7_prepares 156 = .ok (.invokestatic 22, 3) := by decide +kernel
theorem dX7_prepares_159 : decode cX7_prepares 159 = .ok (.iaload, 1) := by decide +kernel
theorem dX7_prepares_160 : decode cX7_prepares 160 = .ok (.iastore, 1) := by decide +kernel
theorem dX7_prepares_161 : decode cX7_prepares 161 = .ok (.iinc 2 1, 3) := by decide +kernel
theorem dX7_prepares_164 : decode cX7_prepares 164 = .ok (.goto (-50), 3) := by decide +kernel
theorem dX7_prepares_167 : decode cX7_prepares 167 = .ok (.return_, 1) := by decide +kernel
set_option maxRecDepth 20000 in
theorem ggX7_isReady_X7_at : GoodIn wsX7_isReady wsX7_at := goodIn_r _ [5] (by decide +kernel) (by decide +kernel)
set_option maxRecDepth 20000 in
theorem gX7_isReady_X7_at : GoodIn wsX7_isReady (va_wsS RX7 22 yX7_at wsX7_at) := goodIn_app (goodIn_of _ (by decide +kernel)) ggX7_isReady_X7_at
theorem dX7_isReady_0 : decode cX7_isReady 0 = .ok (.aload_n 0, 1) := by decide +kernel
theorem dX7_isReady_1 : decode cX7_isReady 1 = .ok (.getfield 7, 3) := by decide +kernel
theorem dX7_isReady_4 : decode cX7_isReady 4 = .ok (.iload_n 1, 1) := by decide +kernel
theorem dX7_isReady_5 : decode cX7_isReady 5 = .ok (.iconst 0, 1) := by decide +kernel
theorem dX7_isReady_6 : decode cX7_isReady 6 = .ok (.invokestatic 22, 3) := by decide +kernel
theorem dX7_isReady_9 : decode cX7_isReady 9 = .ok (.iaload, 1) := by decide +kernel
theorem dX7_isReady_10 : decode cX7_isReady 10 = .ok (.iconst 1, 1) := by decide +kernel
theorem dX7_isReady_11 : decode cX7_isReady 11 = .ok (.if_icmp .ne 7, 3) := by decide +kernel
theorem dX7_isReady_14 : decode cX7_isReady 14 = .ok (.iconst 1, 1) := by decide +kernel
theorem dX7_isReady_15 : decode cX7_isReady 15 = .ok (.goto 4, 3) := by decide +kernel
theorem dX7_isReady_18 : decode cX7_isReady 18 = .ok (.iconst 0, 1) := by decide +kernel
theorem dX7_isReady_19 : decode cX7_isReady 19 = .ok (.ireturn, 1) := by decide +kernel
set_option maxRecDepth 20000 in
theorem ggX7_issuing_X7_isReady : GoodIn wsX7_issuing wsX7_isReady := goodIn_r _ [6, 1, 7, 8, 5, 9, 10, 11, 12, 13, 14, 15, 16, 17, 18, 19, 20] (by decide +kernel) (by decide +kernel)
set_option maxRecDepth 20000 in
theorem gX7_issuing_X7_isReady : GoodIn wsX7_issuing (wsV RX7 57 RX7 yX7_isReady wsX7_isReady) := goodIn_app (goodIn_of _ (by decide +kernel)) ggX7_issuing_X7_isReady
set_option maxRecDepth 20000 in
theorem ggX7_issuing_X7_at : GoodIn wsX7_issuing wsX7_at := goodIn_r _ [9] (by decide +kernel) (by decide +kernel)
set_option maxRecDepth 20000 in
theorem gX7_issuing_X7_at : GoodIn wsX7_issuing (va_wsS RX7 22 yX7_at wsX7_at) := goodIn_app (goodIn_of _ (by decide +kernel)) ggX7_issuing_X7_at
theorem dX7_issuing_0 : decode cX7_issuing 0 = .ok (.aload_n 0, 1) := by decide +kernel
theorem dX7_issuing_1 : decode cX7_issuing 1 = .ok (.getfield 7, 3) := by decide +kernel
theorem dX7_issuing_4 : decode cX7_issuing 4 = .ok (.sipush 234, 3) := by decide +kernel
theorem dX7_issuing_7 : decode cX7_issuing 7 = .ok (.aload_n 0, 1) := by decide +kernel
theorem dX7_issuing_8 : decode cX7_issuing 8 = .ok (.getfield 7, 3) := by decide +kernel
theorem dX7_issuing_11 : decode cX7_issuing 11 = .ok (.sipush 232, 3) := by decide +kernel
theorem dX7_issuing_14 : decode cX7_issuing 14 = .ok (.iaload, 1) := by decide +kernel
theorem dX7_issuing_15 : decode cX7_issuing 15 = .ok (.bipush 8, 2) := by decide +kernel
theorem dX7_issuing_17 : decode cX7_issuing 17 = .ok (.irem, 1) := by decide +kernel
theorem dX7_issuing_18 : decode cX7_issuing 18 = .ok (.iadd, 1) := by decide +kernel
theorem dX7_issuing_19 : decode cX7_issuing 19 = .ok (.iaload, 1) := by decide +kernel
theorem dX7_issuing_20 : decode cX7_issuing 20 = .ok (.istore_n 1, 1) := by decide +kernel
theorem dX7_issuing_21 : decode cX7_issuing 21 = .ok (.aload_n 0, 1) := by decide +kernel
theorem dX7_issuing_22 : decode cX7_issuing 22 = .ok (.iload_n 1, 1) := by decide +kernel
theorem dX7_issuing_23 : decode cX7_issuing 23 = .ok (.invokevirtual 57, 3) := by decide +kernel
theorem dX7_issuing_26 : decode cX7_issuing 26 = .ok (.ifCond .ne 14, 3) := by decide +kernel
theorem dX7_issuing_29 : decode cX7_issuing 29 = .ok (.aload_n 0, 1) := by decide +kernel
theorem dX7_issuing_30 : decode cX7_issuing 30 = .ok (.getfield 7, 3) := by decide +kernel
theorem dX7_issuing_33 : decode cX7_issuing 33 = .ok (.sipush 243, 3) := by decide +kernel
theorem dX7_issuing_36 : decode cX7_issuing 36 = .ok (.iaload, 1) := by decide +kernel
theorem dX7_issuing_37 : decode cX7_issuing 37 = .ok (.ifCond .ne 17, 3) := by decide +kernel
theorem dX7_issuing_40 : decode cX7_issuing 40 = .ok (.aload_n 0, 1) := by decide +kernel
theorem dX7_issuing_41 : decode cX7_issuing 41 = .ok (.iload_n 1, 1) := by decide +kernel
theorem dX7_issuing_42 : decode cX7_issuing 42 = .ok (.invokevirtual 57, 3) := by decide +kernel
theorem dX7_issuing_45 : decode cX7_issuing 45 = .ok (.ifCond .eq 7, 3) := by decide +kernel
theorem dX7_issuing_48 : decode cX7_issuing 48 = .ok (.iload_n 1, 1) := by decide +kernel
theorem dX7_issuing_49 : decode cX7_issuing 49 = .ok (.goto 4, 3) := by decide +kernel
theorem dX7_issuing_52 : decode cX7_issuing 52 = .ok (.iconst (-1), 1) := by decide +kernel
theorem dX7_issuing_53 : decode cX7_issuing 53 = .ok (.ireturn, 1) := by decide +kernel
theorem dX7_issuing_54 : decode cX7_issuing 54 = .ok (.iconst (-1), 1) := by decide +kernel
theorem dX7_issuing_55 : decode cX7_issuing 55 = .ok (.istore_n 2, 1) := by decide +kernel
theorem dX7_issuing_56 : decode cX7_issuing 56 = .ok (.iconst 3, 1) := by decide +kernel
theorem dX7_issuing_57 : decode cX7_issuing 57 = .ok (.istore_n 3, 1) := by decide +kernel
theorem dX7_issuing_58 : decode cX7_issuing 58 = .ok (.iload_n 3, 1) := by decide +kernel
theorem dX7_issuing_59 : decode cX7_issuing 59 = .ok (.ifCond .le 44, 3) := by decide +kernel
theorem dX7_issuing_62 : decode cX7_issuing 62 = .ok (.aload_n 0, 1) := by decide +kernel
theorem dX7_issuing_63 : decode cX7_issuing 63 = .ok (.getfield 7, 3) := by decide +kernel
theorem dX7_issuing_66 : decode cX7_issuing 66 = .ok (.sipush 243, 3) := by decide +kernel
theorem dX7_issuing_69 : decode cX7_issuing 69 = .ok (.iaload, 1) := by decide +kernel
theorem dX7_issuing_70 : decode cX7_issuing 70 = .ok (.iconst 1, 1) := by decide +kernel
theorem dX7_issuing_71 : decode cX7_issuing 71 = .ok (.if_icmp .ne 32, 3) := by decide +kernel
theorem dX7_issuing_74 : decode cX7_issuing 74 = .ok (.iload_n 1, 1) := by decide +kernel
theorem dX7_issuing_75 : decode cX7_issuing 75 = .ok (.iload_n 3, 1) := by decide +kernel
theorem dX7_issuing_76 : decode cX7_issuing 76 = .ok (.iadd, 1) := by decide +kernel
theorem dX7_issuing_77 : decode cX7_issuing 77 = .ok (.iconst 4, 1) := by decide +kernel
theorem dX7_issuing_78 : decode cX7_issuing 78 = .ok (.irem, 1) := by decide +kernel
theorem dX7_issuing_79 : decode cX7_issuing 79 = .ok (.istore 4, 2) := by decide +kernel
theorem dX7_issuing_81 : decode cX7_issuing 81 = .ok (.aload_n 0, 1) := by decide +kernel
theorem dX7_issuing_82 : decode cX7_issuing 82 = .ok (.iload 4, 2) := by decide +kernel
theorem dX7_issuing_84 : decode cX7_issuing 84 = .ok (.invokevirtual 57, 3) := by decide +kernel
theorem dX7_issuing_87 : decode cX7_issuing 87 = .ok (.ifCond .eq 8, 3) := by decide +kernel
theorem dX7_issuing_90 : decode cX7_issuing 90 = .ok (.iload 4, 2) := by decide +kernel
theorem dX7_issuing_92 : decode cX7_issuing 92 = .ok (.goto 4, 3) := by decide +kernel
theorem dX7_issuing_95 : decode cX7_issuing 95 = .ok (.iload_n 2, 1) := by decide +kernel
theorem dX7_issuing_96 : decode cX7_issuing 96 = .ok (.istore_n 2, 1) := by decide +kernel
theorem dX7_issuing_97 : decode cX7_issuing 97 = .ok (.iinc 3 (-1), 3) := by decide +kernel
theorem dX7_issuing_100 : decode cX7_issuing 100 = .ok (.goto (-42), 3) := by decide +kernel
theorem dX7_issuing_103 : decode cX7_issuing 103 = .ok (.iconst 0, 1) := by decide +kernel
theorem dX7_issuing_104 : decode cX7_issuing 104 = .ok (.istore_n 3, 1) := by decide +kernel
theorem dX7_issuing_105 : decode cX7_issuing 105 = .ok (.iload_n 3, 1) := by decide +kernel
theorem dX7_issuing_106 : decode cX7_issuing 106 = .ok (.iconst 4, 1) := by decide +kernel
theorem dX7_issuing_107 : decode cX7_issuing 107 = .ok (.if_icmp .ge 77, 3) := by decide +kernel
theorem dX7_issuing_110 : decode cX7_issuing 110 = .ok (.aload_n 0, 1) := by decide +kernel
theorem dX7_issuing_111 : decode cX7_issuing 111 = .ok (.getfield 7, 3) := by decide +kernel
theorem dX7_issuing_114 : decode cX7_issuing 114 = .ok (.sipush 243, 3) := by decide +kernel
theorem dX7_issuing_117 : decode cX7_issuing 117 = .ok (.iaload, 1) := by decide +kernel
theorem dX7_issuing_118 : decode cX7_issuing 118 = .ok (.iconst 2, 1) := by decide +kernel
theorem dX7_issuing_119 : decode cX7_issuing 119 = .ok (.if_icmp .ne 65, 3) := by decide +kernel
theorem dX7_issuing_122 : decode cX7_issuing 122 = .ok (.aload_n 0, 1) := by decide +kernel
theorem dX7_issuing_123 : decode cX7_issuing 123 = .ok (.iload_n 3, 1) := by decide +kernel
theorem dX7_issuing_124 : decode cX7_issuing 124 = .ok (.invokevirtual 57, 3) := by decide +kernel
theorem dX7_issuing_127 : decode cX7_issuing 127 = .ok (.ifCond .eq 37, 3) := by decide +kernel
theorem dX7_issuing_130 : decode cX7_issuing 130 = .ok (.iload_n 2, 1) := by decide +kernel
theorem dX7_issuing_131 : decode cX7_issuing 131 = .ok (.iconst (-1), 1) := by decide +kernel
theorem dX7_issuing_132 : decode cX7_issuing 132 = .ok (.if_icmp .eq 28, 3) := by decide +kernel
theorem dX7_issuing_135 : decode cX7_issuing 135 = .ok (.aload_n 0, 1) := by decide +kernel
theorem dX7_issuing_136 : decode cX7_issuing 136 = .ok (.getfield 7, 3) := by decide +kernel
theorem dX7_issuing_139 : decode cX7_issuing 139 = .ok (.iload_n 3, 1) := by decide +kernel
theorem dX7_issuing_140 : decode cX7_issuing 140 = .ok (.bipush 9, 2) := by decide +kernel
theorem dX7_issuing_142 : decode cX7_issuing 142 = .ok (.invokestatic 22, 3) := by decide +kernel
theorem dX7_issuing_145 : decode cX7_issuing 145 = .ok (.iaload, 1) := by decide +kernel
theorem dX7_issuing_146 : decode cX7_issuing 146 = .ok (.aload_n 0, 1) := by decide +kernel
theorem dX7_issuing_147 : decode cX7_issuing 147 = .ok (.getfield 7, 3) := by decide +kernel
theorem dX7_issuing_150 : decode cX7_issuing 150 = .ok (.iload_n 2, 1) := by decide +kernel
theorem dX7_issuing_151 : decode cX7_issuing 151 = .ok (.bipush 9, 2) := by decide +kernel
theorem dX7_issuing_153 : decode cX7_issuing 153 = .ok (.invokestatic 22, 3) := by decide +kernel
theorem dX7_issuing_156 : decode cX7_issuing 156 = .ok (.iaload, 1) := by decide +kernel
theorem dX7_issuing_157 : decode cX7_issuing 157 = .ok (.if_icmp .ge 7, 3) := by decide +kernel
theorem dX7_issuing_160 : decode cX7_issuing 160 = .ok (.iconst 1, 1) := by decide +kernel
theorem dX7_issuing_161 : decode cX7_issuing 161 = .ok (.goto 4, 3) := by decide +kernel
theorem dX7_issuing_164 : decode cX7_issuing 164 = .ok (.iconst 0, 1) := by decide +kernel
theorem dX7_issuing_165 : decode cX7_issuing 165 = .ok (.istore 4, 2) := by decide +kernel
theorem dX7_issuing_167 : decode cX7_issuing 167 = .ok (.iload 4, 2) := by decide +kernel
theorem dX7_issuing_169 : decode cX7_issuing 169 = .ok (.ifCond .eq 7, 3) := by decide +kernel
theorem dX7_issuing_172 : decode cX7_issuing 172 = .ok (.iload_n 3, 1) := by decide +kernel
theorem dX7_issuing_173 : decode cX7_issuing 173 = .ok (.goto 4, 3) := by decide +kernel
theorem dX7_issuing_176 : decode cX7_issuing 176 = .ok (.iload_n 2, 1) := by decide +kernel
theorem dX7_issuing_177 : decode cX7_issuing 177 = .ok (.istore_n 2, 1) := by decide +kernel
theorem dX7_issuing_178 : decode cX7_issuing 178 = .ok (.iinc 3 1, 3) := by decide +kernel
theorem dX7_issuing_181 : decode cX7_issuing 181 = .ok (.goto (-76), 3) := by decide +kernel
theorem dX7_issuing_184 : decode cX7_issuing 184 = .ok (.iload_n 2, 1) := by decide +kernel
theorem dX7_issuing_185 : decode cX7_issuing 185 = .ok (.ireturn, 1) := by decide +kernel
set_option maxRecDepth 20000 in
theorem ggX7_cycles_X7_prepares : GoodIn wsX7_cycles wsX7_prepares := goodIn_r _ [6, 1, 7, 8, 5, 9, 10, 11, 12, 13, 14, 15, 16, 17, 49, 50, 51, 52, 53, 54, 55, 56, 57, 58, 59] (by decide +kernel) (by decide +kernel)
set_option maxRecDepth 20000 in
theorem gX7_cycles_X7_prepares : GoodIn wsX7_cycles (wsV RX7 61 RX7 yX7_prepares wsX7_prepares) := goodIn_app (goodIn_of _ (by decide +kernel)) ggX7_cycles_X7_prepares
set_option maxRecDepth 20000 in
theorem ggX7_cycles_X7_issuing : GoodIn wsX7_cycles wsX7_issuing := goodIn_r _ [21, 1, 22, 23, 24, 5, 25, 7, 8, 9, 49, 50, 51, 52, 53, 54, 55, 56, 57, 58, 59] (by decide +kernel) (by decide +kernel)
set_option maxRecDepth 20000 in
theorem gX7_cycles_X7_issuing : GoodIn wsX7_cycles (wsV RX7 64 RX7 yX7_issuing wsX7_issuing) := goodIn_app (goodIn_of _ (by decide +kernel)) ggX7_cycles_X7_issuing
set_option maxRecDepth 20000 in
theorem ggX7_cycles_X7_at : GoodIn wsX7_cycles wsX7_at := goodIn_r _ [9] (by decide +kernel) (by decide +kernel)
set_option maxRecDepth 20000 in
theorem gX7_cycles_X7_at : GoodIn wsX7_cycles (va_wsS RX7 22 yX7_at wsX7_at) := goodIn_app (goodIn_of _ (by decide +kernel)) ggX7_cycles_X7_at
set_option maxRecDepth 20000 in
theorem ggX7_cycles_X7_isReady : GoodIn wsX7_cycles wsX7_isReady := goodIn_r _ [25, 1, 7, 8, 5, 9, 49, 50, 51, 52, 53, 54, 55, 56, 57, 58, 59] (by decide +kernel) (by decide +kernel)
set_option maxRecDepth 20000 in
theorem gX7_cycles_X7_isReady : GoodIn wsX7_cycles (wsV RX7 57 RX7 yX7_isReady wsX7_isReady) := goodIn_app (goodIn_of _ (by decide +kernel)) ggX7_cycles_X7_isReady
set_option maxRecDepth 20000 in
theorem ggX7_cycles_X7_executes : GoodIn wsX7_cycles wsX7_executes := goodIn_r _ [29, 1, 7, 8, 5, 9, 30, 31, 32, 33, 34, 35, 36, 37, 38, 39, 40, 41, 42, 43, 44, 10, 11, 12, 13, 45, 46, 47, 48, 49, 50, 51, 52, 53, 54, 55, 56, 57, 58, 59] (by decide +kernel) (by decide +kernel)
set_option maxRecDepth 20000 in
theorem gX7_cycles_X7_executes : GoodIn wsX7_cycles (wsV RX7 68 RX7 yX7_executes wsX7_executes) := goodIn_app (goodIn_of _ (by decide +kernel)) ggX7_cycles_X7_executes
theorem dX7_cycles_0 : decode cX7_cycles 0 = .ok (.aload_n 0, 1) := by decide +kernel
theorem dX7_cycles_1 : decode cX7_cycles 1 = .ok (.invokevirtual 61, 3) := by decide +kernel
theorem dX7_cycles_4 : decode cX7_cycles 4 = .ok (.aload_n 0, 1) := by decide +kernel
theorem dX7_cycles_5 : decode cX7_cycles 5 = .ok (.getfield 7, 3) := by decide +kernel
theorem dX7_cycles_8 : decode cX7_cycles 8 = .ok (.sipush 234, 3) := by decide +kernel
theorem dX7_cycles_11 : decode cX7_cycles 11 = .ok (.aload_n 0, 1) := by decide +kernel
theorem dX7_cycles_12 : decode cX7_cycles 12 = .ok (.getfield 7, 3) := by decide +kernel
theorem dX7_cycles_15 : decode cX7_cycles 15 = .ok (.sipush 232, 3) := by decide +kernel
theorem dX7_cycles_18 : decode cX7_cycles 18 = .ok (.iaload, 1) := by decide +kernel
theorem dX7_cycles_19 : decode cX7_cycles 19 = .ok (.bipush 8, 2) := by decide +kernel
theorem dX7_cycles_21 : decode cX7_cycles 21 = .ok (.irem, 1) := by decide +kernel
theorem dX7_cycles_22 : decode cX7_cycles 22 = .ok (.iadd, 1) := by decide +kernel
theorem dX7_cycles_23 : decode cX7_cycles 23 = .ok (.iaload, 1) := by decide +kernel
theorem dX7_cycles_24 : decode cX7_cycles 24 = .ok (.istore_n 1, 1) := by decide +kernel
theorem dX7_cycles_25 : decode cX7_cycles 25 = .ok (.aload_n 0, 1) := by decide +kernel
theorem dX7_cycles_26 : decode cX7_cycles 26 = .ok (.invokevirtual 64, 3) := by decide +kernel
theorem dX7_cycles_29 : decode cX7_cycles 29 = .ok (.istore_n 2, 1) := by decide +kernel
theorem dX7_cycles_30 : decode cX7_cycles 30 = .ok (.iconst 0, 1) := by decide +kernel
theorem dX7_cycles_31 : decode cX7_cycles 31 = .ok (.istore_n 3, 1) := by decide +kernel
theorem dX7_cycles_32 : decode cX7_cycles 32 = .ok (.iload_n 3, 1) := by decide +kernel
theorem dX7_cycles_33 : decode cX7_cycles 33 = .ok (.iconst 4, 1) := by decide +kernel
theorem dX7_cycles_34 : decode cX7_cycles 34 = .ok (.if_icmp .ge 111, 3) := by decide +kernel
theorem dX7_cycles_37 : decode cX7_cycles 37 = .ok (.aload_n 0, 1) := by decide +kernel
theorem dX7_cycles_38 : decode cX7_cycles 38 = .ok (.getfield 7, 3) := by decide +kernel
theorem dX7_cycles_41 : decode cX7_cycles 41 = .ok (.iload_n 3, 1) := by decide +kernel
theorem dX7_cycles_42 : decode cX7_cycles 42 = .ok (.bipush 10, 2) := by decide +kernel
theorem dX7_cycles_44 : decode cX7_cycles 44 = .ok (.invokestatic 22, 3) := by decide +kernel
theorem dX7_cycles_47 : decode cX7_cycles 47 = .ok (.aload_n 0, 1) := by decide +kernel
theorem dX7_cycles_48 : decode cX7_cycles 48 = .ok (.iload_n 3, 1) := by decide +kernel
theorem dX7_cycles_49 : decode cX7_cycles 49 = .ok (.invokevirtual 57, 3) := by decide +kernel
theorem dX7_cycles_52 : decode cX7_cycles 52 = .ok (.ifCond .eq 24, 3) := by decide +kernel
theorem dX7_cycles_55 : decode cX7_cycles 55 = .ok (.iload_n 3, 1) := by decide +kernel
theorem dX7_cycles_56 : decode cX7_cycles 56 = .ok (.iload_n 2, 1) := by decide +kernel
theorem dX7_cycles_57 : decode cX7_cycles 57 = .ok (.if_icmp .eq 19, 3) := by decide +kernel
theorem dX7_cycles_60 : decode cX7_cycles 60 = .ok (.aload_n 0, 1) := by decide +kernel
theorem dX7_cycles_61 : decode cX7_cycles 61 = .ok (.getfield 7, 3) := by decide +kernel
theorem dX7_cycles_64 : decode cX7_cycles 64 = .ok (.iload_n 3, 1) := by decide +kernel
theorem dX7_cycles_65 : decode cX7_cycles 65 = .ok (.bipush 10, 2) := by decide +kernel
theorem dX7_cycles_67 : decode cX7_cycles 67 = .ok (.invokestatic 22, 3) := by decide +kernel
theorem dX7_cycles_70 : decode cX7_cycles 70 = .ok (.iaload, 1) := by decide +kernel
theorem dX7_cycles_71 : decode cX7_cycles 71 = .ok (.iconst 1, 1) := by decide +kernel
theorem dX7_cycles_72 : decode cX7_cycles 72 = .ok (.iadd, 1) := by decide +kernel
theorem dX7_cycles_73 : decode cX7_cycles 73 = .ok (.goto 4, 3) := by decide +kernel
theorem dX7_cycles_76 : decode cX7_cycles 76 = .ok (.iconst 0, 1) := by decide +kernel
theorem dX7_cycles_77 : decode cX7_cycles 77 = .ok (.iastore, 1) := by decide +kernel
theorem dX7_cycles_78 : decode cX7_cycles 78 = .ok (.aload_n 0, 1) := by decide +kernel
theorem dX7_cycles_79 : decode cX7_cycles 79 = .ok (.getfield 7, 3) := by decide +kernel
theorem dX7_cycles_82 : decode cX7_cycles 82 = .ok (.iload_n 3, 1) := by decide +kernel
theorem dX7_cycles_83 : decode cX7_cycles 83 = .ok (.bipush 11, 2) := by decide +kernel
theorem dX7_cycles_85 : decode cX7_cycles 85 = .ok (.invokestatic 22, 3) := by decide +kernel
theorem dX7_cycles_88 : decode cX7_cycles 88 = .ok (.aload_n 0, 1) := by decide +kernel
theorem dX7_cycles_89 : decode cX7_cycles 89 = .ok (.getfield 7, 3) := by decide +kernel
theorem dX7_cycles_92 : decode cX7_cycles 92 = .ok (.iload_n 3, 1) := by decide +kernel
theorem dX7_cycles_93 : decode cX7_cycles 93 = .ok (.bipush 10, 2) := by decide +kernel
theorem dX7_cycles_95 : decode cX7_cycles 95 = .ok (.invokestatic 22, 3) := by decide +kernel
theorem dX7_cycles_98 : decode cX7_cycles 98 = .ok (.iaload, 1) := by decide +kernel
theorem dX7_cycles_99 : decode cX7_cycles 99 = .ok (.aload_n 0, 1) := by decide +kernel
theorem dX7_cycles_100 : decode cX7_cycles 100 = .ok (.getfield 7, 3) := by decide +kernel
theorem dX7_cycles_103 : decode cX7_cycles 103 = .ok (.iload_n 3, 1) := by decide +kernel
theorem dX7_cycles_104 : decode cX7_cycles 104 = .ok (.bipush 11, 2) := by decide +kernel
theorem dX7_cycles_106 : decode cX7_cycles 106 = .ok (.invokestatic 22, 3) := by decide +kernel
theorem dX7_cycles_109 : decode cX7_cycles 109 = .ok (.iaload, 1) := by decide +kernel
theorem dX7_cycles_110 : decode cX7_cycles 110 = .ok (.if_icmp .le 17, 3) := by decide +kernel
theorem dX7_cycles_113 : decode cX7_cycles 113 = .ok (.aload_n 0, 1) := by decide +kernel
theorem dX7_cycles_114 : decode cX7_cycles 114 = .ok (.getfield 7, 3) := by decide +kernel
theorem dX7_cycles_117 : decode cX7_cycles 117 = .ok (.iload_n 3, 1) := by decide +kernel
theorem dX7_cycles_118 : decode cX7_cycles 118 = .ok (.bipush 10, 2) := by decide +kernel
theorem dX7_cycles_120 : decode cX7_cycles 120 = .ok (.invokestatic 22, 3) := by decide +kernel
theorem dX7_cycles_123 : decode cX7_cycles 123 = .ok (.iaload, 1) := by decide +kernel
theorem dX7_cycles_124 : decode cX7_cycles 124 = .ok (.goto 14, 3) := by decide +kernel
theorem dX7_cycles_127 : decode cX7_cycles 127 = .ok (.aload_n 0, 1) := by decide +kernel
theorem dX7_cycles_128 : decode cX7_cycles 128 = .ok (.getfield 7, 3) := by decide +kernel
theorem dX7_cycles_131 : decode cX7_cycles 131 = .ok (.iload_n 3, 1) := by decide +kernel
theorem dX7_cycles_132 : decode cX7_cycles 132 = .ok (.bipush 11, 2) := by decide +kernel
theorem dX7_cycles_134 : decode cX7_cycles 134 = .ok (.invokestatic 22, 3) := by decide +kernel
theorem dX7_cycles_137 : decode cX7_cycles 137 = .ok (.iaload, 1) := by decide +kernel
theorem dX7_cycles_138 : decode cX7_cycles 138 = .ok (.iastore, 1) := by decide +kernel
theorem dX7_cycles_139 : decode cX7_cycles 139 = .ok (.iinc 3 1, 3) := by decide +kernel
theorem dX7_cycles_142 : decode cX7_cycles 142 = .ok (.goto (-110), 3) := by decide +kernel
theorem dX7_cycles_145 : decode cX7_cycles 145 = .ok (.iload_n 2, 1) := by decide +kernel
theorem dX7_cycles_146 : decode cX7_cycles 146 = .ok (.iconst (-1), 1) := by decide +kernel
theorem dX7_cycles_147 : decode cX7_cycles 147 = .ok (.if_icmp .ne 18, 3) := by decide +kernel
theorem dX7_cycles_150 : decode cX7_cycles 150 = .ok (.aload_n 0, 1) := by decide +kernel
theorem dX7_cycles_151 : decode cX7_cycles 151 = .ok (.getfield 7, 3) := by decide +kernel
theorem dX7_cycles_154 : decode cX7_cycles 154 = .ok (.sipush 233, 3) := by decide +kernel
theorem dX7_cycles_157 : decode cX7_cycles 157 = .ok (.dup2, 1) := by decide +kernel
theorem dX7_cycles_158 : decode cX7_cycles 158 = .ok (.iaload, 1) := by decide +kernel
theorem dX7_cycles_159 : decode cX7_cycles 159 = .ok (.iconst 1, 1) := by decide +kernel
theorem dX7_cycles_160 : decode cX7_cycles 160 = .ok (.iadd, 1) := by decide +kernel
theorem dX7_cycles_161 : decode cX7_cycles 161 = .ok (.iastore, 1) := by decide +kernel
theorem dX7_cycles_162 : decode cX7_cycles 162 = .ok (.goto 66, 3) := by decide +kernel
theorem dX7_cycles_165 : decode cX7_cycles 165 = .ok (.aload_n 0, 1) := by decide +kernel
theorem dX7_cycles_166 : decode cX7_cycles 166 = .ok (.getfield 7, 3) := by decide +kernel
theorem dX7_cycles_169 : decode cX7_cycles 169 = .ok (.iload_n 2, 1) := by decide +kernel
theorem dX7_cycles_170 : decode cX7_cycles 170 = .ok (.bipush 9, 2) := by decide +kernel
theorem dX7_cycles_172 : decode cX7_cycles 172 = .ok (.invokestatic 22, 3) := by decide +kernel
theorem dX7_cycles_175 : decode cX7_cycles 175 = .ok (.aload_n 0, 1) := by decide +kernel
theorem dX7_cycles_176 : decode cX7_cycles 176 = .ok (.getfield 7, 3) := by decide +kernel
theorem dX7_cycles_179 : decode cX7_cycles 179 = .ok (.sipush 232, 3) := by decide +kernel
theorem dX7_cycles_182 : decode cX7_cycles 182 = .ok (.iaload, 1) := by decide +kernel
theorem dX7_cycles_183 : decode cX7_cycles 183 = .ok (.iastore, 1) := by decide +kernel
theorem dX7_cycles_184 : decode cX7_cycles 184 = .ok (.aload_n 0, 1) := by decide +kernel
theorem dX7_cycles_185 : decode cX7_cycles 185 = .ok (.getfield 7, 3) := by decide +kernel
theorem dX7_cycles_188 : decode cX7_cycles 188 = .ok (.iload_n 2, 1) := by decide +kernel
theorem dX7_cycles_189 : decode cX7_cycles 189 = .ok (.bipush 12, 2) := by decide +kernel
theorem dX7_cycles_191 : decode cX7_cycles 191 = .ok (.invokestatic 22, 3) := by decide +kernel
theorem dX7_cycles_194 : decode cX7_cycles 194 = .ok (.dup2, 1) := by decide +kernel
theorem dX7_cycles_195 : decode cX7_cycles 195 = .ok (.iaload, 1) := by decide +kernel
theorem dX7_cycles_196 : decode cX7_cycles 196 = .ok (.iconst 1, 1) := by decide +kernel
theorem dX7_cycles_197 : decode cX7_cycles 197 = .ok (.iadd, 1) := by decide +kernel
theorem dX7_cycles_198 : decode cX7_cycles 198 = .ok (.iastore, 1) := by decide +kernel
theorem dX7_cycles_199 : decode cX7_cycles 199 = .ok (.aload_n 0, 1) := by decide +kernel
theorem dX7_cycles_200 : decode cX7_cycles 200 = .ok (.getfield 7, 3) := by decide +kernel
theorem dX7_cycles_203 : decode cX7_cycles 203 = .ok (.iload_n 2, 1) := by decide +kernel
theorem dX7_cycles_204 : decode cX7_cycles 204 = .ok (.bipush 13, 2) := by decide +kernel
theorem dX7_cycles_206 : decode cX7_cycles 206 = .ok (.invokestatic 22, 3) := by decide +kernel
theorem dX7_cycles_209 : decode cX7_cycles 209 = .ok (.dup2, 1) := by decide +kernel
theorem dX7_cycles_210 : decode cX7_cycles 210 = .ok (.iaload, 1) := by decide +kernel
theorem dX7_cycles_211 : decode cX7_cycles 211 = .ok (.iload_n 2, 1) := by decide +kernel
theorem dX7_cycles_212 : decode cX7_cycles 212 = .ok (.iload_n 1, 1) := by decide +kernel
theorem dX7_cycles_213 : decode cX7_cycles 213 = .ok (.if_icmp .ne 7, 3) := by decide +kernel
theorem dX7_cycles_216 : decode cX7_cycles 216 = .ok (.iconst 0, 1) := by decide +kernel
theorem dX7_cycles_217 : decode cX7_cycles 217 = .ok (.goto 4, 3) := by decide +kernel
theorem dX7_cycles_220 : decode cX7_cycles 220 = .ok (.iconst 1, 1) := by decide +kernel
theorem dX7_cycles_221 : decode cX7_cycles 221 = .ok (.iadd, 1) := by decide +kernel
theorem dX7_cycles_222 : decode cX7_cycles 222 = .ok (.iastore, 1) := by decide +kernel
theorem dX7_cycles_223 : decode cX7_cycles 223 = .ok (.aload_n 0, 1) := by decide +kernel
theorem dX7_cycles_224 : decode cX7_cycles 224 = .ok (.iload_n 2, 1) := by decide +kernel
theorem dX7_cycles_225 : decode cX7_cycles 225 = .ok (.invokevirtual 68, 3) := by decide +kernel
theorem dX7_cycles_228 : decode cX7_cycles 228 = .ok (.aload_n 0, 1) := by decide +kernel
theorem dX7_cycles_229 : decode cX7_cycles 229 = .ok (.getfield 7, 3) := by decide +kernel
theorem dX7_cycles_232 : decode cX7_cycles 232 = .ok (.sipush 232, 3) := by decide +kernel
theorem dX7_cycles_235 : decode cX7_cycles 235 = .ok (.dup2, 1) := by decide +kernel
theorem dX7_cycles_236 : decode cX7_cycles 236 = .ok (.iaload, 1) := by decide +kernel
theorem dX7_cycles_237 : decode cX7_cycles 237 = .ok (.iconst 1, 1) := by decide +kernel
theorem dX7_cycles_238 : decode cX7_cycles 238 = .ok (.iadd, 1) := by decide +kernel
theorem dX7_cycles_239 : decode cX7_cycles 239 = .ok (.iastore, 1) := by decide +kernel
theorem dX7_cycles_240 : decode cX7_cycles 240 = .ok (.return_, 1) := by decide +kernel
set_option maxRecDepth 20000 in
theorem ggX7_isOver_X7_many : GoodIn wsX7_isOver wsX7_many := goodIn_r _ [5, 6, 7, 8, 4, 9, 10, 11, 12, 13, 14, 15, 16, 17, 18, 19, 20] (by decide +kernel) (by decide +kernel)
set_option maxRecDepth 20000 in
theorem gX7_isOver_X7_many : GoodIn wsX7_isOver (wsV RX7 53 RX7 yX7_many wsX7_many) := goodIn_app (goodIn_of _ (by decide +kernel)) ggX7_isOver_X7_many
theorem dX7_isOver_0 : decode cX7_isOver 0 = .ok (.aload_n 0, 1) := by decide +kernel
theorem dX7_isOver_1 : decode cX7_isOver 1 = .ok (.iconst 0, 1) := by decide +kernel
theorem dX7_isOver_2 : decode cX7_isOver 2 = .ok (.invokevirtual 53, 3) := by decide +kernel
theorem dX7_isOver_5 : decode cX7_isOver 5 = .ok (.iconst 4, 1) := by decide +kernel
theorem dX7_isOver_6 : decode cX7_isOver 6 = .ok (.if_icmp .ne 7, 3) := by decide +kernel
theorem dX7_isOver_9 : decode cX7_isOver 9 = .ok (.iconst 1, 1) := by decide +kernel
theorem dX7_isOver_10 : decode cX7_isOver 10 = .ok (.goto 4, 3) := by decide +kernel
theorem dX7_isOver_13 : decode cX7_isOver 13 = .ok (.iconst 0, 1) := by decide +kernel
theorem dX7_isOver_14 : decode cX7_isOver 14 = .ok (.ireturn, 1) := by decide +kernel
set_option maxRecDepth 20000 in
theorem ggX7_assemble_X7_isPlace : GoodIn wsX7_assemble wsX7_isPlace := goodIn_r _ [14, 15, 16, 13, 17] (by decide +kernel) (by decide +kernel)
set_option maxRecDepth 20000 in
theorem gX7_assemble_X7_isPlace : GoodIn wsX7_assemble (va_wsS RX7 72 yX7_isPlace wsX7_isPlace) := goodIn_app (goodIn_of _ (by decide +kernel)) ggX7_assemble_X7_isPlace
set_option maxRecDepth 20000 in
theorem ggX7_assemble_X7_isFaulty : GoodIn wsX7_assemble wsX7_isFaulty := goodIn_r _ [21, 6, 22, 3, 23, 24, 25, 13, 26, 8, 9, 10, 27, 28, 29, 30, 4, 31, 32, 33, 34, 35, 36, 37, 38, 39, 40, 41, 15, 16, 17, 42, 43, 44, 45, 46, 47, 48, 49, 56, 57, 58, 59, 60, 61, 62, 63, 64, 65, 66] (by decide +kernel) (by decide +kernel)
set_option maxRecDepth 20000 in
theorem gX7_assemble_X7_isFaulty : GoodIn wsX7_assemble (wsV RX7 76 RX7 yX7_isFaulty wsX7_isFaulty) := goodIn_app (goodIn_of _ (by decide +kernel)) ggX7_assemble_X7_isFaulty
set_option maxRecDepth 20000 in
theorem ggX7_assemble_X7_records : GoodIn wsX7_assemble wsX7_records := goodIn_r _ [53, 54, 55, 7, 56, 57, 58, 59, 60, 61, 62, 63, 64, 65, 66] (by decide +kernel) (by decide +kernel)
set_option maxRecDepth 20000 in
theorem gX7_assemble_X7_records : GoodIn wsX7_assemble (wsV RX7 85 RX7 yX7_records wsX7_records) := goodIn_app (goodIn_of _ (by decide +kernel)) ggX7_assemble_X7_records
set_option maxRecDepth 20000 in
theorem ggX7_assemble_X7_instruction : GoodIn wsX7_assemble wsX7_instruction := goodIn_r _ [26, 8, 9, 10, 22, 6, 27, 28, 29, 13, 30, 3, 4, 31, 32, 33, 34, 35, 36, 37, 38, 39, 40, 41, 15, 16, 17, 42, 43, 44, 45, 46, 47, 48, 49, 56, 57, 58, 59, 60, 61, 62, 63, 64, 65, 66] (by decide +kernel) (by decide +kernel)
set_option maxRecDepth 20000 in
theorem gX7_assemble_X7_instruction : GoodIn wsX7_assemble (wsV RX7 91 RX7 yX7_instruction wsX7_instruction) := goodIn_app (goodIn_of _ (by decide +kernel)) ggX7_assemble_X7_instruction
theorem dX7_assemble_0 : decode cX7_assemble 0 = .ok (.iload_n 1, 1) := by decide +kernel
theorem dX7_assemble_1 : decode cX7_assemble 1 = .ok (.invokestatic 72, 3) := by decide +kernel
theorem dX7_assemble_4 : decode cX7_assemble 4 = .ok (.ifCond .ne 6, 3) := by decide +kernel
theorem dX7_assemble_7 : decode cX7_assemble 7 = .ok (.ldc 75, 2) := by decide +kernel
theorem dX7_assemble_9 : decode cX7_assemble 9 = .ok (.ireturn, 1) := by decide +kernel
theorem dX7_assemble_10 : decode cX7_assemble 10 = .ok (.aload_n 0, 1) := by decide +kernel
theorem dX7_assemble_11 : decode cX7_assemble 11 = .ok (.invokevirtual 76, 3) := by decide +kernel
theorem dX7_assemble_14 : decode cX7_assemble 14 = .ok (.ifCond .eq 6, 3) := by decide +kernel
theorem dX7_assemble_17 : decode cX7_assemble 17 = .ok (.ldc 80, 2) := by decide +kernel
theorem dX7_assemble_19 : decode cX7_assemble 19 = .ok (.ireturn, 1) := by decide +kernel
theorem dX7_assemble_20 : decode cX7_assemble 20 = .ok (.iconst 1, 1) := by decide +kernel
theorem dX7_assemble_21 : decode cX7_assemble 21 = .ok (.istore_n 2, 1) := by decide +kernel
theorem dX7_assemble_22 : decode cX7_assemble 22 = .ok (.iconst 0, 1) := by decide +kernel
theorem dX7_assemble_23 : decode cX7_assemble 23 = .ok (.istore_n 3, 1) := by decide +kernel
theorem dX7_assemble_24 : decode cX7_assemble 24 = .ok (.iload_n 3, 1) := by decide +kernel
theorem dX7_assemble_25 : decode cX7_assemble 25 = .ok (.aload_n 0, 1) := by decide +kernel
theorem dX7_assemble_26 : decode cX7_assemble 26 = .ok (.getfield 81, 3) := by decide +kernel
theorem dX7_assemble_29 : decode cX7_assemble 29 = .ok (.if_icmp .ge 28, 3) := by decide +kernel
theorem dX7_assemble_32 : decode cX7_assemble 32 = .ok (.iload_n 2, 1) := by decide +kernel
theorem dX7_assemble_33 : decode cX7_assemble 33 = .ok (.aload_n 0, 1) := by decide +kernel
theorem dX7_assemble_34 : decode cX7_assemble 34 = .ok (.getfield 19, 3) := by decide +kernel
theorem dX7_assemble_37 : decode cX7_assemble 37 = .ok (.iload_n 3, 1) := by decide +kernel
theorem dX7_assemble_38 : decode cX7_assemble 38 = .ok (.iaload, 1) := by decide +kernel
theorem dX7_assemble_39 : decode cX7_assemble 39 = .ok (.bipush 59, 2) := by decide +kernel
theorem dX7_assemble_41 : decode cX7_assemble 41 = .ok (.if_icmp .ne 7, 3) := by decide +kernel
theorem dX7_assemble_44 : decode cX7_assemble 44 = .ok (.iconst 1, 1) := by decide +kernel
theorem dX7_assemble_45 : decode cX7_assemble 45 = .ok (.goto 4, 3) := by decide +kernel
theorem dX7_assemble_48 : decode cX7_assemble 48 = .ok (.iconst 0, 1) := by decide +kernel
theorem dX7_assemble_49 : decode cX7_assemble 49 = .ok (.iadd, 1) := by decide +kernel
theorem dX7_assemble_50 : decode cX7_assemble 50 = .ok (.istore_n 2, 1) := by decide +kernel
theorem dX7_assemble_51 : decode cX7_assemble 51 = .ok (.iinc 3 1, 3) := by decide +kernel
theorem dX7_assemble_54 : decode cX7_assemble 54 = .ok (.goto (-30), 3) := by decide +kernel
theorem dX7_assemble_57 : decode cX7_assemble 57 = .ok (.iload_n 1, 1) := by decide +kernel
theorem dX7_assemble_58 : decode cX7_assemble 58 = .ok (.iload_n 2, 1) := by decide +kernel
theorem dX7_assemble_59 : decode cX7_assemble 59 = .ok (.iadd, 1) := by decide +kernel
theorem dX7_assemble_60 : decode cX7_assemble 60 = .ok (.bipush 48, 2) := by decide +kernel
theorem dX7_assemble_62 : decode cX7_assemble 62 = .ok (.if_icmp .le 6, 3) := by decide +kernel
theorem dX7_assemble_65 : decode cX7_assemble 65 = .ok (.ldc 84, 2) := by decide +kernel
theorem dX7_assemble_67 : decode cX7_assemble 67 = .ok (.ireturn, 1) := by decide +kernel
theorem dX7_assemble_68 : decode cX7_assemble 68 = .ok (.aload_n 0, 1) := by decide +kernel
theorem dX7_assemble_69 : decode cX7_assemble 69 = .ok (.invokevirtual 85, 3) := by decide +kernel
theorem dX7_assemble_72 : decode cX7_assemble 72 = .ok (.aload_n 0, 1) := by decide +kernel
theorem dX7_assemble_73 : decode cX7_assemble 73 = .ok (.iconst 0, 1) := by decide +kernel
theorem dX7_assemble_74 : decode cX7_assemble 74 = .ok (.putfield 88, 3) := by decide +kernel
theorem dX7_assemble_77 : decode cX7_assemble 77 = .ok (.iconst 0, 1) := by decide +kernel
theorem dX7_assemble_78 : decode cX7_assemble 78 = .ok (.istore_n 3, 1) := by decide +kernel
theorem dX7_assemble_79 : decode cX7_assemble 79 = .ok (.iload_n 3, 1) := by decide +kernel
theorem dX7_assemble_80 : decode cX7_assemble 80 = .ok (.iload_n 2, 1) := by decide +kernel
theorem dX7_assemble_81 : decode cX7_assemble 81 = .ok (.if_icmp .ge 78, 3) := by decide +kernel
theorem dX7_assemble_84 : decode cX7_assemble 84 = .ok (.aload_n 0, 1) := by decide +kernel
theorem dX7_assemble_85 : decode cX7_assemble 85 = .ok (.invokevirtual 91, 3) := by decide +kernel
theorem dX7_assemble_88 : decode cX7_assemble 88 = .ok (.aload_n 0, 1) := by decide +kernel
theorem dX7_assemble_89 : decode cX7_assemble 89 = .ok (.dup, 1) := by decide +kernel
theorem dX7_assemble_90 : decode cX7_assemble 90 = .ok (.getfield 88, 3) := by decide +kernel
theorem dX7_assemble_93 : decode cX7_assemble 93 = .ok (.iconst 1, 1) := by decide +kernel
theorem dX7_assemble_94 : decode cX7_assemble 94 = .ok (.iadd, 1) := by decide +kernel
theorem dX7_assemble_95 : decode cX7_assemble 95 = .ok (.putfield 88, 3) := by decide +kernel
theorem dX7_assemble_98 : decode cX7_assemble 98 = .ok (.aload_n 0, 1) := by decide +kernel
theorem dX7_assemble_99 : decode cX7_assemble 99 = .ok (.getfield 7, 3) := by decide +kernel
theorem dX7_assemble_102 : decode cX7_assemble 102 = .ok (.bipush 56, 2) := by decide +kernel
theorem dX7_assemble_104 : decode cX7_assemble 104 = .ok (.iconst 3, 1) := by decide +kernel
theorem dX7_assemble_105 : decode cX7_assemble 105 = .ok (.iload_n 1, 1) := by decide +kernel
theorem dX7_assemble_106 : decode cX7_assemble 106 = .ok (.iload_n 3, 1) := by decide +kernel
theorem dX7_assemble_107 : decode cX7_assemble 107 = .ok (.iadd, 1) := by decide +kernel
theorem dX7_assemble_108 : decode cX7_assemble 108 = .ok (.imul, 1) := by decide +kernel
theorem dX7_assemble_109 : decode cX7_assemble 109 = .ok (.iadd, 1) := by decide +kernel
theorem dX7_assemble_110 : decode cX7_assemble 110 = .ok (.aload_n 0, 1) := by decide +kernel
theorem dX7_assemble_111 : decode cX7_assemble 111 = .ok (.getfield 94, 3) := by decide +kernel
theorem dX7_assemble_114 : decode cX7_assemble 114 = .ok (.iastore, 1) := by decide +kernel
theorem dX7_assemble_115 : decode cX7_assemble 115 = .ok (.aload_n 0, 1) := by decide +kernel
theorem dX7_assemble_116 : decode cX7_assemble 116 = .ok (.getfield 7, 3) := by decide +kernel
theorem dX7_assemble_119 : decode cX7_assemble 119 = .ok (.bipush 56, 2) := by decide +kernel
theorem dX7_assemble_121 : decode cX7_assemble 121 = .ok (.iconst 3, 1) := by decide +kernel
theorem dX7_assemble_122 : decode cX7_assemble 122 = .ok (.iload_n 1, 1) := by decide +kernel
theorem dX7_assemble_123 : decode cX7_assemble 123 = .ok (.iload_n 3, 1) := by decide +kernel
theorem dX7_assemble_124 : decode cX7_assemble 124 = .ok (.iadd, 1) := by decide +kernel
theorem dX7_assemble_125 : decode cX7_assemble 125 = .ok (.imul, 1) := by decide +kernel
theorem dX7_assemble_126 : decode cX7_assemble 126 = .ok (.iadd, 1) := by decide +kernel
theorem dX7_assemble_127 : decode cX7_assemble 127 = .ok (.iconst 1, 1) := by decide +kernel
theorem dX7_assemble_128 : decode cX7_assemble 128 = .ok (.iadd, 1) := by decide +kernel
theorem dX7_assemble_129 : decode cX7_assemble 129 = .ok (.aload_n 0, 1) := by decide +kernel
theorem dX7_assemble_130 : decode cX7_assemble 130 = .ok (.getfield 97, 3) := by decide +kernel
theorem dX7_assemble_133 : decode cX7_assemble 133 = .ok (.iastore, 1) := by decide +kernel
theorem dX7_assemble_134 : decode cX7_assemble 134 = .ok (.aload_n 0, 1) := by decide +kernel
theorem dX7_assemble_135 : decode cX7_assemble 135 = .ok (.getfield 7, 3) := by decide +kernel
theorem dX7_assemble_138 : decode cX7_assemble 138 = .ok (.bipush 56, 2) := by decide +kernel
theorem dX7_assemble_140 : decode cX7_assemble 140 = .ok (.iconst 3, 1) := by decide +kernel
theorem dX7_assemble_141 : decode cX7_assemble 141 = .ok (.iload_n 1, 1) := by decide +kernel
theorem dX7_assemble_142 : decode cX7_assemble 142 = .ok (.iload_n 3, 1) := by decide +kernel
theorem dX7_assemble_143 : decode cX7_assemble 143 = .ok (.iadd, 1) := by decide +kernel
theorem dX7_assemble_144 : decode cX7_assemble 144 = .ok (.imul, 1) := by decide +kernel
theorem dX7_assemble_145 : decode cX7_assemble 145 = .ok (.iadd, 1) := by decide +kernel
theorem dX7_assemble_146 : decode cX7_assemble 146 = .ok (.iconst 2, 1) := by decide +kernel
theorem dX7_assemble_147 : decode cX7_assemble 147 = .ok (.iadd, 1) := by decide +kernel
theorem dX7_assemble_148 : decode cX7_assemble 148 = .ok (.aload_n 0, 1) := by decide +kernel
theorem dX7_assemble_149 : decode cX7_assemble 149 = .ok (.getfield 100, 3) := by decide +kernel
theorem dX7_assemble_152 : decode cX7_assemble 152 = .ok (.iastore, 1) := by decide +kernel
theorem dX7_assemble_153 : decode cX7_assemble 153 = .ok (.iinc 3 1, 3) := by decide +kernel
theorem dX7_assemble_156 : decode cX7_assemble 156 = .ok (.goto (-77), 3) := by decide +kernel
theorem dX7_assemble_159 : decode cX7_assemble 159 = .ok (.iload_n 2, 1) := by decide +kernel
theorem dX7_assemble_160 : decode cX7_assemble 160 = .ok (.ireturn, 1) := by decide +kernel
set_option maxRecDepth 20000 in
theorem ggX7_start_X7_isThread : GoodIn wsX7_start wsX7_isThread := goodIn_r _ [6, 7, 8, 5, 9] (by decide +kernel) (by decide +kernel)
set_option maxRecDepth 20000 in
theorem gX7_start_X7_isThread : GoodIn wsX7_start (va_wsS RX7 103 yX7_isThread wsX7_isThread) := goodIn_app (goodIn_of _ (by decide +kernel)) ggX7_start_X7_isThread
set_option maxRecDepth 20000 in
theorem ggX7_start_X7_isPlace : GoodIn wsX7_start wsX7_isPlace := goodIn_r _ [12, 7, 8, 5, 9] (by decide +kernel) (by decide +kernel)
set_option maxRecDepth 20000 in
theorem gX7_start_X7_isPlace : GoodIn wsX7_start (va_wsS RX7 72 yX7_isPlace wsX7_isPlace) := goodIn_app (goodIn_of _ (by decide +kernel)) ggX7_start_X7_isPlace
set_option maxRecDepth 20000 in
theorem ggX7_start_X7_records : GoodIn wsX7_start wsX7_records := goodIn_r _ [16, 17, 18, 2, 22, 23, 24, 25, 26, 27, 28, 29, 30, 31, 32] (by decide +kernel) (by decide +kernel)
set_option maxRecDepth 20000 in
theorem gX7_start_X7_records : GoodIn wsX7_start (wsV RX7 85 RX7 yX7_records wsX7_records) := goodIn_app (goodIn_of _ (by decide +kernel)) ggX7_start_X7_records
set_option maxRecDepth 20000 in
theorem ggX7_start_X7_at : GoodIn wsX7_start wsX7_at := goodIn_r _ [21] (by decide +kernel) (by decide +kernel)
set_option maxRecDepth 20000 in
theorem gX7_start_X7_at : GoodIn wsX7_start (va_wsS RX7 22 yX7_at wsX7_at) := goodIn_app (goodIn_of _ (by decide +kernel)) ggX7_start_X7_at
theorem dX7_start_0 : decode cX7_start 0 = .ok (.iload_n 1, 1) := by decide +kernel
theorem dX7_start_1 : decode cX7_start 1 = .ok (.invokestatic 103, 3) := by decide +kernel
theorem dX7_start_4 : decode cX7_start 4 = .ok (.ifCond .eq 10, 3) := by decide +kernel
theorem dX7_start_7 : decode cX7_start 7 = .ok (.iload_n 2, 1) := by decide +kernel
theorem dX7_start_8 : decode cX7_start 8 = .ok (.invokestatic 72, 3) := by decide +kernel
theorem dX7_start_11 : decode cX7_start 11 = .ok (.ifCond .ne 6, 3) := by decide +kernel
theorem dX7_start_14 : decode cX7_start 14 = .ok (.ldc 75, 2) := by decide +kernel
theorem dX7_start_16 : decode cX7_start 16 = .ok (.ireturn, 1) := by decide +kernel
theorem dX7_start_17 : decode cX7_start 17 = .ok (.aload_n 0, 1) := by decide +kernel
theorem dX7_start_18 : decode cX7_start 18 = .ok (.invokevirtual 85, 3) := by decide +kernel
theorem dX7_start_21 : decode cX7_start 21 = .ok (.aload_n 0, 1) := by decide +kernel
theorem dX7_start_22 : decode cX7_start 22 = .ok (.getfield 7, 3) := by decide +kernel
theorem dX7_start_25 : decode cX7_start 25 = .ok (.iload_n 1, 1) := by decide +kernel
theorem dX7_start_26 : decode cX7_start 26 = .ok (.iconst 0, 1) := by decide +kernel
theorem dX7_start_27 : decode cX7_start 27 = .ok (.invokestatic 22, 3) := by decide +kernel
theorem dX7_start_30 : decode cX7_start 30 = .ok (.iaload, 1) := by decide +kernel
theorem dX7_start_31 : decode cX7_start 31 = .ok (.istore_n 3, 1) := by decide +kernel
theorem dX7_start_32 : decode cX7_start 32 = .ok (.aload_n 0, 1) := by decide +kernel
theorem dX7_start_33 : decode cX7_start 33 = .ok (.getfield 7, 3) := by decide +kernel
theorem dX7_start_36 : decode cX7_start 36 = .ok (.iload_n 1, 1) := by decide +kernel
theorem dX7_start_37 : decode cX7_start 37 = .ok (.iconst 0, 1) := by decide +kernel
theorem dX7_start_38 : decode cX7_start 38 = .ok (.invokestatic 22, 3) := by decide +kernel
theorem dX7_start_41 : decode cX7_start 41 = .ok (.iconst 1, 1) := by decide +kernel
theorem dX7_start_42 : decode cX7_start 42 = .ok (.iastore, 1) := by decide +kernel
theorem dX7_start_43 : decode cX7_start 43 = .ok (.aload_n 0, 1) := by decide +kernel
theorem dX7_start_44 : decode cX7_start 44 = .ok (.getfield 7, 3) := by decide +kernel
theorem dX7_start_47 : decode cX7_start 47 = .ok (.iload_n 1, 1) := by decide +kernel
theorem dX7_start_48 : decode cX7_start 48 = .ok (.iconst 1, 1) := by decide +kernel
theorem dX7_start_49 : decode cX7_start 49 = .ok (.invokestatic 22, 3) := by decide +kernel
theorem dX7_start_52 : decode cX7_start 52 = .ok (.iload_n 2, 1) := by decide +kernel
theorem dX7_start_53 : decode cX7_start 53 = .ok (.iastore, 1) := by decide +kernel
theorem dX7_start_54 : decode cX7_start 54 = .ok (.iconst 0, 1) := by decide +kernel
theorem dX7_start_55 : decode cX7_start 55 = .ok (.istore 4, 2) := by decide +kernel
theorem dX7_start_57 : decode cX7_start 57 = .ok (.iload 4, 2) := by decide +kernel
theorem dX7_start_59 : decode cX7_start 59 = .ok (.iconst 4, 1) := by decide +kernel
theorem dX7_start_60 : decode cX7_start 60 = .ok (.if_icmp .ge 23, 3) := by decide +kernel
theorem dX7_start_63 : decode cX7_start 63 = .ok (.aload_n 0, 1) := by decide +kernel
theorem dX7_start_64 : decode cX7_start 64 = .ok (.getfield 7, 3) := by decide +kernel
theorem dX7_start_67 : decode cX7_start 67 = .ok (.iload_n 1, 1) := by decide +kernel
theorem dX7_start_68 : decode cX7_start 68 = .ok (.iconst 2, 1) := by decide +kernel
theorem dX7_start_69 : decode cX7_start 69 = .ok (.iload 4, 2) := by decide +kernel
theorem dX7_start_71 : decode cX7_start 71 = .ok (.iadd, 1) := by decide +kernel
theorem dX7_start_72 : decode cX7_start 72 = .ok (.invokestatic 22, 3) := by decide +kernel
theorem dX7_start_75 : decode cX7_start 75 = .ok (.iconst 0, 1) := by decide +kernel
theorem dX7_start_76 : decode cX7_start 76 = .ok (.iastore, 1) := by decide +kernel
theorem dX7_start_77 : decode cX7_start 77 = .ok (.iinc 4 1, 3) := by decide +kernel
theorem dX7_start_80 : decode cX7_start 80 = .ok (.goto (-23), 3) := by decide +kernel
theorem dX7_start_83 : decode cX7_start 83 = .ok (.aload_n 0, 1) := by decide +kernel
theorem dX7_start_84 : decode cX7_start 84 = .ok (.getfield 7, 3) := by decide +kernel
theorem dX7_start_87 : decode cX7_start 87 = .ok (.iload_n 1, 1) := by decide +kernel
theorem dX7_start_88 : decode cX7_start 88 = .ok (.bipush 9, 2) := by decide +kernel
theorem dX7_start_90 : decode cX7_start 90 = .ok (.invokestatic 22, 3) := by decide +kernel
theorem dX7_start_93 : decode cX7_start 93 = .ok (.iconst (-1), 1) := by decide +kernel
theorem dX7_start_94 : decode cX7_start 94 = .ok (.iastore, 1) := by decide +kernel
theorem dX7_start_95 : decode cX7_start 95 = .ok (.aload_n 0, 1) := by decide +kernel
theorem dX7_start_96 : decode cX7_start 96 = .ok (.getfield 7, 3) := by decide +kernel
theorem dX7_start_99 : decode cX7_start 99 = .ok (.iload_n 1, 1) := by decide +kernel
theorem dX7_start_100 : decode cX7_start 100 = .ok (.bipush 10, 2) := by decide +kernel
theorem dX7_start_102 : decode cX7_start 102 = .ok (.invokestatic 22, 3) := by decide +kernel
theorem dX7_start_105 : decode cX7_start 105 = .ok (.iconst 0, 1) := by decide +kernel
theorem dX7_start_106 : decode cX7_start 106 = .ok (.iastore, 1) := by decide +kernel
theorem dX7_start_107 : decode cX7_start 107 = .ok (.iload_n 3, 1) := by decide +kernel
theorem dX7_start_108 : decode cX7_start 108 = .ok (.ireturn, 1) := by decide +kernel
set_option maxRecDepth 20000 in
theorem ggX7_halt_X7_isThread : GoodIn wsX7_halt wsX7_isThread := goodIn_r _ [6, 7, 8, 5, 9] (by decide +kernel) (by decide +kernel)
set_option maxRecDepth 20000 in
theorem gX7_halt_X7_isThread : GoodIn wsX7_halt (va_wsS RX7 103 yX7_isThread wsX7_isThread) := goodIn_app (goodIn_of _ (by decide +kernel)) ggX7_halt_X7_isThread
set_option maxRecDepth 20000 in
theorem ggX7_halt_X7_records : GoodIn wsX7_halt wsX7_records := goodIn_r _ [13, 14, 15, 2, 19, 20, 21, 22, 23, 24, 25, 26, 27, 28, 29] (by decide +kernel) (by decide +kernel)
set_option maxRecDepth 20000 in
theorem gX7_halt_X7_records : GoodIn wsX7_halt (wsV RX7 85 RX7 yX7_records wsX7_records) := goodIn_app (goodIn_of _ (by decide +kernel)) ggX7_halt_X7_records
set_option maxRecDepth 20000 in
theorem ggX7_halt_X7_at : GoodIn wsX7_halt wsX7_at := goodIn_r _ [18] (by decide +kernel) (by decide +kernel)
set_option maxRecDepth 20000 in
theorem gX7_halt_X7_at : GoodIn wsX7_halt (va_wsS RX7 22 yX7_at wsX7_at) := goodIn_app (goodIn_of _ (by decide +kernel)) ggX7_halt_X7_at
theorem dX7_halt_0 : decode cX7_halt 0 = .ok (.iload_n 1, 1) := by decide +kernel
theorem dX7_halt_1 : decode cX7_halt 1 = .ok (.invokestatic 103, 3) := by decide +kernel
theorem dX7_halt_4 : decode cX7_halt 4 = .ok (.ifCond .ne 6, 3) := by decide +kernel
theorem dX7_halt_7 : decode cX7_halt 7 = .ok (.ldc 75, 2) := by decide +kernel
theorem dX7_halt_9 : decode cX7_halt 9 = .ok (.ireturn, 1) := by decide +kernel
theorem dX7_halt_10 : decode cX7_halt 10 = .ok (.aload_n 0, 1) := by decide +kernel
theorem dX7_halt_11 : decode cX7_halt 11 = .ok (.invokevirtual 85, 3) := by decide +kernel
theorem dX7_halt_14 : decode cX7_halt 14 = .ok (.aload_n 0, 1) := by decide +kernel
theorem dX7_halt_15 : decode cX7_halt 15 = .ok (.getfield 7, 3) := by decide +kernel
theorem dX7_halt_18 : decode cX7_halt 18 = .ok (.iload_n 1, 1) := by decide +kernel
theorem dX7_halt_19 : decode cX7_halt 19 = .ok (.iconst 0, 1) := by decide +kernel
theorem dX7_halt_20 : decode cX7_halt 20 = .ok (.invokestatic 22, 3) := by decide +kernel
theorem dX7_halt_23 : decode cX7_halt 23 = .ok (.iaload, 1) := by decide +kernel
theorem dX7_halt_24 : decode cX7_halt 24 = .ok (.istore_n 2, 1) := by decide +kernel
theorem dX7_halt_25 : decode cX7_halt 25 = .ok (.aload_n 0, 1) := by decide +kernel
theorem dX7_halt_26 : decode cX7_halt 26 = .ok (.getfield 7, 3) := by decide +kernel
theorem dX7_halt_29 : decode cX7_halt 29 = .ok (.iload_n 1, 1) := by decide +kernel
theorem dX7_halt_30 : decode cX7_halt 30 = .ok (.iconst 0, 1) := by decide +kernel
theorem dX7_halt_31 : decode cX7_halt 31 = .ok (.invokestatic 22, 3) := by decide +kernel
theorem dX7_halt_34 : decode cX7_halt 34 = .ok (.iconst 0, 1) := by decide +kernel
theorem dX7_halt_35 : decode cX7_halt 35 = .ok (.iastore, 1) := by decide +kernel
theorem dX7_halt_36 : decode cX7_halt 36 = .ok (.aload_n 0, 1) := by decide +kernel
theorem dX7_halt_37 : decode cX7_halt 37 = .ok (.getfield 7, 3) := by decide +kernel
theorem dX7_halt_40 : decode cX7_halt 40 = .ok (.iload_n 1, 1) := by decide +kernel
theorem dX7_halt_41 : decode cX7_halt 41 = .ok (.bipush 10, 2) := by decide +kernel
theorem dX7_halt_43 : decode cX7_halt 43 = .ok (.invokestatic 22, 3) := by decide +kernel
theorem dX7_halt_46 : decode cX7_halt 46 = .ok (.iconst 0, 1) := by decide +kernel
theorem dX7_halt_47 : decode cX7_halt 47 = .ok (.iastore, 1) := by decide +kernel
theorem dX7_halt_48 : decode cX7_halt 48 = .ok (.iload_n 2, 1) := by decide +kernel
theorem dX7_halt_49 : decode cX7_halt 49 = .ok (.ireturn, 1) := by decide +kernel
