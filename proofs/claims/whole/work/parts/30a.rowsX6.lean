theorem dX6_init_0 : decode cX6_init 0 = .ok (.aload_n 0, 1) := by decide +kernel
theorem dX6_init_1 : decode cX6_init 1 = .ok (.invokespecial 1, 3) := by decide +kernel
theorem dX6_init_4 : decode cX6_init 4 = .ok (.aload_n 0, 1) := by decide +kernel
theorem dX6_init_5 : decode cX6_init 5 = .ok (.sipush 490, 3) := by decide +kernel
theorem dX6_init_8 : decode cX6_init 8 = .ok (.newarray .int, 2) := by decide +kernel
theorem dX6_init_10 : decode cX6_init 10 = .ok (.putfield 7, 3) := by decide +kernel
theorem dX6_init_13 : decode cX6_init 13 = .ok (.aload_n 0, 1) := by decide +kernel
theorem dX6_init_14 : decode cX6_init 14 = .ok (.sipush 490, 3) := by decide +kernel
theorem dX6_init_17 : decode cX6_init 17 = .ok (.newarray .int, 2) := by decide +kernel
theorem dX6_init_19 : decode cX6_init 19 = .ok (.putfield 13, 3) := by decide +kernel
theorem dX6_init_22 : decode cX6_init 22 = .ok (.aload_n 0, 1) := by decide +kernel
theorem dX6_init_23 : decode cX6_init 23 = .ok (.sipush 1960, 3) := by decide +kernel
theorem dX6_init_26 : decode cX6_init 26 = .ok (.newarray .int, 2) := by decide +kernel
theorem dX6_init_28 : decode cX6_init 28 = .ok (.putfield 16, 3) := by decide +kernel
theorem dX6_init_31 : decode cX6_init 31 = .ok (.aload_n 0, 1) := by decide +kernel
theorem dX6_init_32 : decode cX6_init 32 = .ok (.sipush 490, 3) := by decide +kernel
theorem dX6_init_35 : decode cX6_init 35 = .ok (.newarray .int, 2) := by decide +kernel
theorem dX6_init_37 : decode cX6_init 37 = .ok (.putfield 19, 3) := by decide +kernel
theorem dX6_init_40 : decode cX6_init 40 = .ok (.aload_n 0, 1) := by decide +kernel
theorem dX6_init_41 : decode cX6_init 41 = .ok (.bipush 60, 2) := by decide +kernel
theorem dX6_init_43 : decode cX6_init 43 = .ok (.newarray .char, 2) := by decide +kernel
theorem dX6_init_45 : decode cX6_init 45 = .ok (.putfield 22, 3) := by decide +kernel
theorem dX6_init_48 : decode cX6_init 48 = .ok (.iconst 0, 1) := by decide +kernel
theorem dX6_init_49 : decode cX6_init 49 = .ok (.istore_n 1, 1) := by decide +kernel
theorem dX6_init_50 : decode cX6_init 50 = .ok (.iload_n 1, 1) := by decide +kernel
theorem dX6_init_51 : decode cX6_init 51 = .ok (.bipush 8, 2) := by decide +kernel
theorem dX6_init_53 : decode cX6_init 53 = .ok (.if_icmp .ge 19, 3) := by decide +kernel
theorem dX6_init_56 : decode cX6_init 56 = .ok (.aload_n 0, 1) := by decide +kernel
theorem dX6_init_57 : decode cX6_init 57 = .ok (.getfield 7, 3) := by decide +kernel
theorem dX6_init_60 : decode cX6_init 60 = .ok (.iconst 0, 1) := by decide +kernel
theorem dX6_init_61 : decode cX6_init 61 = .ok (.iload_n 1, 1) := by decide +kernel
theorem dX6_init_62 : decode cX6_init 62 = .ok (.iadd, 1) := by decide +kernel
theorem dX6_init_63 : decode cX6_init 63 = .ok (.bipush 100, 2) := by decide +kernel
theorem dX6_init_65 : decode cX6_init 65 = .ok (.iastore, 1) := by decide +kernel
theorem dX6_init_66 : decode cX6_init 66 = .ok (.iinc 1 1, 3) := by decide +kernel
theorem dX6_init_69 : decode cX6_init 69 = .ok (.goto (-19), 3) := by decide +kernel
theorem dX6_init_72 : decode cX6_init 72 = .ok (.aload_n 0, 1) := by decide +kernel
theorem dX6_init_73 : decode cX6_init 73 = .ok (.getfield 7, 3) := by decide +kernel
theorem dX6_init_76 : decode cX6_init 76 = .ok (.sipush 479, 3) := by decide +kernel
theorem dX6_init_79 : decode cX6_init 79 = .ok (.iconst 2, 1) := by decide +kernel
theorem dX6_init_80 : decode cX6_init 80 = .ok (.iastore, 1) := by decide +kernel
theorem dX6_init_81 : decode cX6_init 81 = .ok (.aload_n 0, 1) := by decide +kernel
theorem dX6_init_82 : decode cX6_init 82 = .ok (.getfield 7, 3) := by decide +kernel
theorem dX6_init_85 : decode cX6_init 85 = .ok (.sipush 480, 3) := by decide +kernel
theorem dX6_init_88 : decode cX6_init 88 = .ok (.iconst 4, 1) := by decide +kernel
theorem dX6_init_89 : decode cX6_init 89 = .ok (.iastore, 1) := by decide +kernel
theorem dX6_init_90 : decode cX6_init 90 = .ok (.aload_n 0, 1) := by decide +kernel
theorem dX6_init_91 : decode cX6_init 91 = .ok (.getfield 7, 3) := by decide +kernel
theorem dX6_init_94 : decode cX6_init 94 = .ok (.sipush 481, 3) := by decide +kernel
theorem dX6_init_97 : decode cX6_init 97 = .ok (.iconst 3, 1) := by decide +kernel
theorem dX6_init_98 : decode cX6_init 98 = .ok (.iastore, 1) := by decide +kernel
theorem dX6_init_99 : decode cX6_init 99 = .ok (.aload_n 0, 1) := by decide +kernel
theorem dX6_init_100 : decode cX6_init 100 = .ok (.getfield 7, 3) := by decide +kernel
theorem dX6_init_103 : decode cX6_init 103 = .ok (.sipush 482, 3) := by decide +kernel
theorem dX6_init_106 : decode cX6_init 106 = .ok (.bipush 50, 2) := by decide +kernel
theorem dX6_init_108 : decode cX6_init 108 = .ok (.iastore, 1) := by decide +kernel
theorem dX6_init_109 : decode cX6_init 109 = .ok (.return_, 1) := by decide +kernel
theorem dX6_in_0 : decode cX6_in 0 = .ok (.iload_n 0, 1) := by decide +kernel
theorem dX6_in_1 : decode cX6_in 1 = .ok (.iload_n 1, 1) := by decide +kernel
theorem dX6_in_2 : decode cX6_in 2 = .ok (.if_icmp .lt 12, 3) := by decide +kernel
theorem dX6_in_5 : decode cX6_in 5 = .ok (.iload_n 0, 1) := by decide +kernel
theorem dX6_in_6 : decode cX6_in 6 = .ok (.iload_n 2, 1) := by decide +kernel
theorem dX6_in_7 : decode cX6_in 7 = .ok (.if_icmp .gt 7, 3) := by decide +kernel
theorem dX6_in_10 : decode cX6_in 10 = .ok (.iconst 1, 1) := by decide +kernel
theorem dX6_in_11 : decode cX6_in 11 = .ok (.goto 4, 3) := by decide +kernel
theorem dX6_in_14 : decode cX6_in 14 = .ok (.iconst 0, 1) := by decide +kernel
theorem dX6_in_15 : decode cX6_in 15 = .ok (.ireturn, 1) := by decide +kernel
set_option maxRecDepth 20000 in
theorem ggX6_isTrader_X6_in : GoodIn wsX6_isTrader wsX6_in := goodIn_r _ [4] (by decide +kernel) (by decide +kernel)
set_option maxRecDepth 20000 in
theorem gX6_isTrader_X6_in : GoodIn wsX6_isTrader (va_wsS RX6 26 yX6_in wsX6_in) := goodIn_app (goodIn_of _ (by decide +kernel)) ggX6_isTrader_X6_in
theorem dX6_isTrader_0 : decode cX6_isTrader 0 = .ok (.iload_n 0, 1) := by decide +kernel
theorem dX6_isTrader_1 : decode cX6_isTrader 1 = .ok (.iconst 0, 1) := by decide +kernel
theorem dX6_isTrader_2 : decode cX6_isTrader 2 = .ok (.bipush 7, 2) := by decide +kernel
theorem dX6_isTrader_4 : decode cX6_isTrader 4 = .ok (.invokestatic 26, 3) := by decide +kernel
theorem dX6_isTrader_7 : decode cX6_isTrader 7 = .ok (.ireturn, 1) := by decide +kernel
set_option maxRecDepth 20000 in
theorem ggX6_isRiddle_X6_in : GoodIn wsX6_isRiddle wsX6_in := goodIn_r _ [5] (by decide +kernel) (by decide +kernel)
set_option maxRecDepth 20000 in
theorem gX6_isRiddle_X6_in : GoodIn wsX6_isRiddle (va_wsS RX6 26 yX6_in wsX6_in) := goodIn_app (goodIn_of _ (by decide +kernel)) ggX6_isRiddle_X6_in
theorem dX6_isRiddle_0 : decode cX6_isRiddle 0 = .ok (.iload_n 1, 1) := by decide +kernel
theorem dX6_isRiddle_1 : decode cX6_isRiddle 1 = .ok (.iconst 0, 1) := by decide +kernel
theorem dX6_isRiddle_2 : decode cX6_isRiddle 2 = .ok (.aload_n 0, 1) := by decide +kernel
theorem dX6_isRiddle_3 : decode cX6_isRiddle 3 = .ok (.getfield 7, 3) := by decide +kernel
theorem dX6_isRiddle_6 : decode cX6_isRiddle 6 = .ok (.sipush 483, 3) := by decide +kernel
theorem dX6_isRiddle_9 : decode cX6_isRiddle 9 = .ok (.iaload, 1) := by decide +kernel
theorem dX6_isRiddle_10 : decode cX6_isRiddle 10 = .ok (.iconst 1, 1) := by decide +kernel
theorem dX6_isRiddle_11 : decode cX6_isRiddle 11 = .ok (.isub, 1) := by decide +kernel
theorem dX6_isRiddle_12 : decode cX6_isRiddle 12 = .ok (.invokestatic 26, 3) := by decide +kernel
theorem dX6_isRiddle_15 : decode cX6_isRiddle 15 = .ok (.ireturn, 1) := by decide +kernel
set_option maxRecDepth 20000 in
theorem ggX6_isAnswer_X6_in : GoodIn wsX6_isAnswer wsX6_in := goodIn_r _ [5] (by decide +kernel) (by decide +kernel)
set_option maxRecDepth 20000 in
theorem gX6_isAnswer_X6_in : GoodIn wsX6_isAnswer (va_wsS RX6 26 yX6_in wsX6_in) := goodIn_app (goodIn_of _ (by decide +kernel)) ggX6_isAnswer_X6_in
theorem dX6_isAnswer_0 : decode cX6_isAnswer 0 = .ok (.iload_n 1, 1) := by decide +kernel
theorem dX6_isAnswer_1 : decode cX6_isAnswer 1 = .ok (.iconst 0, 1) := by decide +kernel
theorem dX6_isAnswer_2 : decode cX6_isAnswer 2 = .ok (.aload_n 0, 1) := by decide +kernel
theorem dX6_isAnswer_3 : decode cX6_isAnswer 3 = .ok (.getfield 7, 3) := by decide +kernel
theorem dX6_isAnswer_6 : decode cX6_isAnswer 6 = .ok (.sipush 484, 3) := by decide +kernel
theorem dX6_isAnswer_9 : decode cX6_isAnswer 9 = .ok (.iaload, 1) := by decide +kernel
theorem dX6_isAnswer_10 : decode cX6_isAnswer 10 = .ok (.iconst 1, 1) := by decide +kernel
theorem dX6_isAnswer_11 : decode cX6_isAnswer 11 = .ok (.isub, 1) := by decide +kernel
theorem dX6_isAnswer_12 : decode cX6_isAnswer 12 = .ok (.invokestatic 26, 3) := by decide +kernel
theorem dX6_isAnswer_15 : decode cX6_isAnswer 15 = .ok (.ireturn, 1) := by decide +kernel
theorem dX6_ofR_0 : decode cX6_ofR 0 = .ok (.bipush 16, 2) := by decide +kernel
theorem dX6_ofR_2 : decode cX6_ofR 2 = .ok (.iconst 5, 1) := by decide +kernel
theorem dX6_ofR_3 : decode cX6_ofR 3 = .ok (.iload_n 0, 1) := by decide +kernel
theorem dX6_ofR_4 : decode cX6_ofR 4 = .ok (.imul, 1) := by decide +kernel
theorem dX6_ofR_5 : decode cX6_ofR 5 = .ok (.iadd, 1) := by decide +kernel
theorem dX6_ofR_6 : decode cX6_ofR 6 = .ok (.iload_n 1, 1) := by decide +kernel
theorem dX6_ofR_7 : decode cX6_ofR 7 = .ok (.iadd, 1) := by decide +kernel
theorem dX6_ofR_8 : decode cX6_ofR 8 = .ok (.ireturn, 1) := by decide +kernel
theorem dX6_ofA_0 : decode cX6_ofA 0 = .ok (.bipush 116, 2) := by decide +kernel
theorem dX6_ofA_2 : decode cX6_ofA 2 = .ok (.bipush 8, 2) := by decide +kernel
theorem dX6_ofA_4 : decode cX6_ofA 4 = .ok (.iload_n 0, 1) := by decide +kernel
theorem dX6_ofA_5 : decode cX6_ofA 5 = .ok (.imul, 1) := by decide +kernel
theorem dX6_ofA_6 : decode cX6_ofA 6 = .ok (.iadd, 1) := by decide +kernel
theorem dX6_ofA_7 : decode cX6_ofA 7 = .ok (.iload_n 1, 1) := by decide +kernel
theorem dX6_ofA_8 : decode cX6_ofA 8 = .ok (.iadd, 1) := by decide +kernel
theorem dX6_ofA_9 : decode cX6_ofA 9 = .ok (.ireturn, 1) := by decide +kernel
theorem dX6_records_0 : decode cX6_records 0 = .ok (.aload_n 0, 1) := by decide +kernel
theorem dX6_records_1 : decode cX6_records 1 = .ok (.getfield 30, 3) := by decide +kernel
theorem dX6_records_4 : decode cX6_records 4 = .ok (.iconst 4, 1) := by decide +kernel
theorem dX6_records_5 : decode cX6_records 5 = .ok (.if_icmp .ne 44, 3) := by decide +kernel
theorem dX6_records_8 : decode cX6_records 8 = .ok (.iconst 0, 1) := by decide +kernel
theorem dX6_records_9 : decode cX6_records 9 = .ok (.istore_n 1, 1) := by decide +kernel
theorem dX6_records_10 : decode cX6_records 10 = .ok (.iload_n 1, 1) := by decide +kernel
theorem dX6_records_11 : decode cX6_records 11 = .ok (.sipush 1470, 3) := by decide +kernel
theorem dX6_records_14 : decode cX6_records 14 = .ok (.if_icmp .ge 25, 3) := by decide +kernel
theorem dX6_records_17 : decode cX6_records 17 = .ok (.aload_n 0, 1) := by decide +kernel
theorem dX6_records_18 : decode cX6_records 18 = .ok (.getfield 16, 3) := by decide +kernel
theorem dX6_records_21 : decode cX6_records 21 = .ok (.iload_n 1, 1) := by decide +kernel
theorem dX6_records_22 : decode cX6_records 22 = .ok (.aload_n 0, 1) := by decide +kernel
theorem dX6_records_23 : decode cX6_records 23 = .ok (.getfield 16, 3) := by decide +kernel
theorem dX6_records_26 : decode cX6_records 26 = .ok (.sipush 490, 3) := by decide +kernel
theorem dX6_records_29 : decode cX6_records 29 = .ok (.iload_n 1, 1) := by decide +kernel
theorem dX6_records_30 : decode cX6_records 30 = .ok (.iadd, 1) := by decide +kernel
theorem dX6_records_31 : decode cX6_records 31 = .ok (.iaload, 1) := by decide +kernel
theorem dX6_records_32 : decode cX6_records 32 = .ok (.iastore, 1) := by decide +kernel
theorem dX6_records_33 : decode cX6_records 33 = .ok (.iinc 1 1, 3) := by decide +kernel
theorem dX6_records_36 : decode cX6_records 36 = .ok (.goto (-26), 3) := by decide +kernel
theorem dX6_records_39 : decode cX6_records 39 = .ok (.aload_n 0, 1) := by decide +kernel
theorem dX6_records_40 : decode cX6_records 40 = .ok (.dup, 1) := by decide +kernel
theorem dX6_records_41 : decode cX6_records 41 = .ok (.getfield 30, 3) := by decide +kernel
theorem dX6_records_44 : decode cX6_records 44 = .ok (.iconst 1, 1) := by decide +kernel
theorem dX6_records_45 : decode cX6_records 45 = .ok (.isub, 1) := by decide +kernel
theorem dX6_records_46 : decode cX6_records 46 = .ok (.putfield 30, 3) := by decide +kernel
theorem dX6_records_49 : decode cX6_records 49 = .ok (.iconst 0, 1) := by decide +kernel
theorem dX6_records_50 : decode cX6_records 50 = .ok (.istore_n 1, 1) := by decide +kernel
theorem dX6_records_51 : decode cX6_records 51 = .ok (.iload_n 1, 1) := by decide +kernel
theorem dX6_records_52 : decode cX6_records 52 = .ok (.sipush 490, 3) := by decide +kernel
theorem dX6_records_55 : decode cX6_records 55 = .ok (.if_icmp .ge 30, 3) := by decide +kernel
theorem dX6_records_58 : decode cX6_records 58 = .ok (.aload_n 0, 1) := by decide +kernel
theorem dX6_records_59 : decode cX6_records 59 = .ok (.getfield 16, 3) := by decide +kernel
theorem dX6_records_62 : decode cX6_records 62 = .ok (.sipush 490, 3) := by decide +kernel
theorem dX6_records_65 : decode cX6_records 65 = .ok (.aload_n 0, 1) := by decide +kernel
theorem dX6_records_66 : decode cX6_records 66 = .ok (.getfield 30, 3) := by decide +kernel
theorem dX6_records_69 : decode cX6_records 69 = .ok (.imul, 1) := by decide +kernel
theorem dX6_records_70 : decode cX6_records 70 = .ok (.iload_n 1, 1) := by decide +kernel
theorem dX6_records_71 : decode cX6_records 71 = .ok (.iadd, 1) := by decide +kernel
theorem dX6_records_72 : decode cX6_records 72 = .ok (.aload_n 0, 1) := by decide +kernel
theorem dX6_records_73 : decode cX6_records 73 = .ok (.getfield 7, 3) := by decide +kernel
theorem dX6_records_76 : decode cX6_records 76 = .ok (.iload_n 1, 1) := by decide +kernel
theorem dX6_records_77 : decode cX6_records 77 = .ok (.iaload, 1) := by decide +kernel
theorem dX6_records_78 : decode cX6_records 78 = .ok (.iastore, 1) := by decide +kernel
theorem dX6_records_79 : decode cX6_records 79 = .ok (.iinc 1 1, 3) := by decide +kernel
theorem dX6_records_82 : decode cX6_records 82 = .ok (.goto (-31), 3) := by decide +kernel
theorem dX6_records_85 : decode cX6_records 85 = .ok (.aload_n 0, 1) := by decide +kernel
theorem dX6_records_86 : decode cX6_records 86 = .ok (.dup, 1) := by decide +kernel
theorem dX6_records_87 : decode cX6_records 87 = .ok (.getfield 30, 3) := by decide +kernel
theorem dX6_records_90 : decode cX6_records 90 = .ok (.iconst 1, 1) := by decide +kernel
theorem dX6_records_91 : decode cX6_records 91 = .ok (.iadd, 1) := by decide +kernel
theorem dX6_records_92 : decode cX6_records 92 = .ok (.putfield 30, 3) := by decide +kernel
theorem dX6_records_95 : decode cX6_records 95 = .ok (.return_, 1) := by decide +kernel
theorem dX6_putAside_0 : decode cX6_putAside 0 = .ok (.iconst 0, 1) := by decide +kernel
theorem dX6_putAside_1 : decode cX6_putAside 1 = .ok (.istore_n 1, 1) := by decide +kernel
theorem dX6_putAside_2 : decode cX6_putAside 2 = .ok (.iload_n 1, 1) := by decide +kernel
theorem dX6_putAside_3 : decode cX6_putAside 3 = .ok (.sipush 490, 3) := by decide +kernel
theorem dX6_putAside_6 : decode cX6_putAside 6 = .ok (.if_icmp .ge 21, 3) := by decide +kernel
theorem dX6_putAside_9 : decode cX6_putAside 9 = .ok (.aload_n 0, 1) := by decide +kernel
theorem dX6_putAside_10 : decode cX6_putAside 10 = .ok (.getfield 13, 3) := by decide +kernel
theorem dX6_putAside_13 : decode cX6_putAside 13 = .ok (.iload_n 1, 1) := by decide +kernel
theorem dX6_putAside_14 : decode cX6_putAside 14 = .ok (.aload_n 0, 1) := by decide +kernel
theorem dX6_putAside_15 : decode cX6_putAside 15 = .ok (.getfield 7, 3) := by decide +kernel
theorem dX6_putAside_18 : decode cX6_putAside 18 = .ok (.iload_n 1, 1) := by decide +kernel
theorem dX6_putAside_19 : decode cX6_putAside 19 = .ok (.iaload, 1) := by decide +kernel
theorem dX6_putAside_20 : decode cX6_putAside 20 = .ok (.iastore, 1) := by decide +kernel
theorem dX6_putAside_21 : decode cX6_putAside 21 = .ok (.iinc 1 1, 3) := by decide +kernel
theorem dX6_putAside_24 : decode cX6_putAside 24 = .ok (.goto (-22), 3) := by decide +kernel
theorem dX6_putAside_27 : decode cX6_putAside 27 = .ok (.return_, 1) := by decide +kernel
theorem dX6_putBack_0 : decode cX6_putBack 0 = .ok (.iconst 0, 1) := by decide +kernel
theorem dX6_putBack_1 : decode cX6_putBack 1 = .ok (.istore_n 1, 1) := by decide +kernel
theorem dX6_putBack_2 : decode cX6_putBack 2 = .ok (.iload_n 1, 1) := by decide +kernel
theorem dX6_putBack_3 : decode cX6_putBack 3 = .ok (.sipush 490, 3) := by decide +kernel
theorem dX6_putBack_6 : decode cX6_putBack 6 = .ok (.if_icmp .ge 21, 3) := by decide +kernel
theorem dX6_putBack_9 : decode cX6_putBack 9 = .ok (.aload_n 0, 1) := by decide +kernel
theorem dX6_putBack_10 : decode cX6_putBack 10 = .ok (.getfield 7, 3) := by decide +kernel
theorem dX6_putBack_13 : decode cX6_putBack 13 = .ok (.iload_n 1, 1) := by decide +kernel
theorem dX6_putBack_14 : decode cX6_putBack 14 = .ok (.aload_n 0, 1) := by decide +kernel
theorem dX6_putBack_15 : decode cX6_putBack 15 = .ok (.getfield 13, 3) := by decide +kernel
theorem dX6_putBack_18 : decode cX6_putBack 18 = .ok (.iload_n 1, 1) := by decide +kernel
theorem dX6_putBack_19 : decode cX6_putBack 19 = .ok (.iaload, 1) := by decide +kernel
theorem dX6_putBack_20 : decode cX6_putBack 20 = .ok (.iastore, 1) := by decide +kernel
theorem dX6_putBack_21 : decode cX6_putBack 21 = .ok (.iinc 1 1, 3) := by decide +kernel
theorem dX6_putBack_24 : decode cX6_putBack 24 = .ok (.goto (-22), 3) := by decide +kernel
theorem dX6_putBack_27 : decode cX6_putBack 27 = .ok (.return_, 1) := by decide +kernel
set_option maxRecDepth 20000 in
theorem ggX6_barAsk_X6_isTrader : GoodIn wsX6_barAsk wsX6_isTrader := goodIn_r _ [5, 6, 7, 4, 8] (by decide +kernel) (by decide +kernel)
set_option maxRecDepth 20000 in
theorem gX6_barAsk_X6_isTrader : GoodIn wsX6_barAsk (va_wsS RX6 34 yX6_isTrader wsX6_isTrader) := goodIn_app (goodIn_of _ (by decide +kernel)) ggX6_barAsk_X6_isTrader
set_option maxRecDepth 20000 in
theorem ggX6_barAsk_X6_in : GoodIn wsX6_barAsk wsX6_in := goodIn_r _ [8] (by decide +kernel) (by decide +kernel)
set_option maxRecDepth 20000 in
theorem gX6_barAsk_X6_in : GoodIn wsX6_barAsk (va_wsS RX6 26 yX6_in wsX6_in) := goodIn_app (goodIn_of _ (by decide +kernel)) ggX6_barAsk_X6_in
theorem dX6_barAsk_0 : decode cX6_barAsk 0 = .ok (.iload_n 1, 1) := by decide +kernel
theorem dX6_barAsk_1 : decode cX6_barAsk 1 = .ok (.invokestatic 34, 3) := by decide +kernel
theorem dX6_barAsk_4 : decode cX6_barAsk 4 = .ok (.ifCond .ne 7, 3) := by decide +kernel
theorem dX6_barAsk_7 : decode cX6_barAsk 7 = .ok (.iconst (-1), 1) := by decide +kernel
theorem dX6_barAsk_8 : decode cX6_barAsk 8 = .ok (.goto 47, 3) := by decide +kernel
theorem dX6_barAsk_11 : decode cX6_barAsk 11 = .ok (.iload_n 2, 1) := by decide +kernel
theorem dX6_barAsk_12 : decode cX6_barAsk 12 = .ok (.iconst 1, 1) := by decide +kernel
theorem dX6_barAsk_13 : decode cX6_barAsk 13 = .ok (.bipush 50, 2) := by decide +kernel
theorem dX6_barAsk_15 : decode cX6_barAsk 15 = .ok (.invokestatic 26, 3) := by decide +kernel
theorem dX6_barAsk_18 : decode cX6_barAsk 18 = .ok (.ifCond .eq 13, 3) := by decide +kernel
theorem dX6_barAsk_21 : decode cX6_barAsk 21 = .ok (.iload_n 3, 1) := by decide +kernel
theorem dX6_barAsk_22 : decode cX6_barAsk 22 = .ok (.iconst 0, 1) := by decide +kernel
theorem dX6_barAsk_23 : decode cX6_barAsk 23 = .ok (.bipush 99, 2) := by decide +kernel
theorem dX6_barAsk_25 : decode cX6_barAsk 25 = .ok (.invokestatic 26, 3) := by decide +kernel
theorem dX6_barAsk_28 : decode cX6_barAsk 28 = .ok (.ifCond .ne 8, 3) := by decide +kernel
theorem dX6_barAsk_31 : decode cX6_barAsk 31 = .ok (.bipush (-2), 2) := by decide +kernel
theorem dX6_barAsk_33 : decode cX6_barAsk 33 = .ok (.goto 22, 3) := by decide +kernel
theorem dX6_barAsk_36 : decode cX6_barAsk 36 = .ok (.aload_n 0, 1) := by decide +kernel
theorem dX6_barAsk_37 : decode cX6_barAsk 37 = .ok (.getfield 7, 3) := by decide +kernel
theorem dX6_barAsk_40 : decode cX6_barAsk 40 = .ok (.sipush 483, 3) := by decide +kernel
theorem dX6_barAsk_43 : decode cX6_barAsk 43 = .ok (.iaload, 1) := by decide +kernel
theorem dX6_barAsk_44 : decode cX6_barAsk 44 = .ok (.bipush 20, 2) := by decide +kernel
theorem dX6_barAsk_46 : decode cX6_barAsk 46 = .ok (.if_icmp .ne 8, 3) := by decide +kernel
theorem dX6_barAsk_49 : decode cX6_barAsk 49 = .ok (.bipush (-3), 2) := by decide +kernel
theorem dX6_barAsk_51 : decode cX6_barAsk 51 = .ok (.goto 4, 3) := by decide +kernel
theorem dX6_barAsk_54 : decode cX6_barAsk 54 = .ok (.iconst 0, 1) := by decide +kernel
theorem dX6_barAsk_55 : decode cX6_barAsk 55 = .ok (.ireturn, 1) := by decide +kernel
set_option maxRecDepth 20000 in
theorem ggX6_asks_X6_ofR : GoodIn wsX6_asks wsX6_ofR := goodIn_r _ [5] (by decide +kernel) (by decide +kernel)
set_option maxRecDepth 20000 in
theorem gX6_asks_X6_ofR : GoodIn wsX6_asks (va_wsS RX6 38 yX6_ofR wsX6_ofR) := goodIn_app (goodIn_of _ (by decide +kernel)) ggX6_asks_X6_ofR
theorem dX6_asks_0 : decode cX6_asks 0 = .ok (.aload_n 0, 1) := by decide +kernel
theorem dX6_asks_1 : decode cX6_asks 1 = .ok (.getfield 7, 3) := by decide +kernel
theorem dX6_asks_4 : decode cX6_asks 4 = .ok (.sipush 483, 3) := by decide +kernel
theorem dX6_asks_7 : decode cX6_asks 7 = .ok (.iaload, 1) := by decide +kernel
theorem dX6_asks_8 : decode cX6_asks 8 = .ok (.istore 4, 2) := by decide +kernel
theorem dX6_asks_10 : decode cX6_asks 10 = .ok (.aload_n 0, 1) := by decide +kernel
theorem dX6_asks_11 : decode cX6_asks 11 = .ok (.getfield 7, 3) := by decide +kernel
theorem dX6_asks_14 : decode cX6_asks 14 = .ok (.iload 4, 2) := by decide +kernel
theorem dX6_asks_16 : decode cX6_asks 16 = .ok (.iconst 0, 1) := by decide +kernel
theorem dX6_asks_17 : decode cX6_asks 17 = .ok (.invokestatic 38, 3) := by decide +kernel
theorem dX6_asks_20 : decode cX6_asks 20 = .ok (.iload_n 1, 1) := by decide +kernel
theorem dX6_asks_21 : decode cX6_asks 21 = .ok (.iastore, 1) := by decide +kernel
theorem dX6_asks_22 : decode cX6_asks 22 = .ok (.aload_n 0, 1) := by decide +kernel
theorem dX6_asks_23 : decode cX6_asks 23 = .ok (.getfield 7, 3) := by decide +kernel
theorem dX6_asks_26 : decode cX6_asks 26 = .ok (.iload 4, 2) := by decide +kernel
theorem dX6_asks_28 : decode cX6_asks 28 = .ok (.iconst 1, 1) := by decide +kernel
theorem dX6_asks_29 : decode cX6_asks 29 = .ok (.invokestatic 38, 3) := by decide +kernel
theorem dX6_asks_32 : decode cX6_asks 32 = .ok (.iload_n 2, 1) := by decide +kernel
theorem dX6_asks_33 : decode cX6_asks 33 = .ok (.iastore, 1) := by decide +kernel
theorem dX6_asks_34 : decode cX6_asks 34 = .ok (.aload_n 0, 1) := by decide +kernel
theorem dX6_asks_35 : decode cX6_asks 35 = .ok (.getfield 7, 3) := by decide +kernel
theorem dX6_asks_38 : decode cX6_asks 38 = .ok (.iload 4, 2) := by decide +kernel
theorem dX6_asks_40 : decode cX6_asks 40 = .ok (.iconst 2, 1) := by decide +kernel
theorem dX6_asks_41 : decode cX6_asks 41 = .ok (.invokestatic 38, 3) := by decide +kernel
theorem dX6_asks_44 : decode cX6_asks 44 = .ok (.iload_n 3, 1) := by decide +kernel
theorem dX6_asks_45 : decode cX6_asks 45 = .ok (.iastore, 1) := by decide +kernel
theorem dX6_asks_46 : decode cX6_asks 46 = .ok (.aload_n 0, 1) := by decide +kernel
theorem dX6_asks_47 : decode cX6_asks 47 = .ok (.getfield 7, 3) := by decide +kernel
theorem dX6_asks_50 : decode cX6_asks 50 = .ok (.iload 4, 2) := by decide +kernel
theorem dX6_asks_52 : decode cX6_asks 52 = .ok (.iconst 3, 1) := by decide +kernel
theorem dX6_asks_53 : decode cX6_asks 53 = .ok (.invokestatic 38, 3) := by decide +kernel
theorem dX6_asks_56 : decode cX6_asks 56 = .ok (.iconst 0, 1) := by decide +kernel
theorem dX6_asks_57 : decode cX6_asks 57 = .ok (.iastore, 1) := by decide +kernel
theorem dX6_asks_58 : decode cX6_asks 58 = .ok (.aload_n 0, 1) := by decide +kernel
theorem dX6_asks_59 : decode cX6_asks 59 = .ok (.getfield 7, 3) := by decide +kernel
theorem dX6_asks_62 : decode cX6_asks 62 = .ok (.iload 4, 2) := by decide +kernel
theorem dX6_asks_64 : decode cX6_asks 64 = .ok (.iconst 4, 1) := by decide +kernel
theorem dX6_asks_65 : decode cX6_asks 65 = .ok (.invokestatic 38, 3) := by decide +kernel
theorem dX6_asks_68 : decode cX6_asks 68 = .ok (.iconst 0, 1) := by decide +kernel
theorem dX6_asks_69 : decode cX6_asks 69 = .ok (.iastore, 1) := by decide +kernel
theorem dX6_asks_70 : decode cX6_asks 70 = .ok (.aload_n 0, 1) := by decide +kernel
theorem dX6_asks_71 : decode cX6_asks 71 = .ok (.getfield 7, 3) := by decide +kernel
theorem dX6_asks_74 : decode cX6_asks 74 = .ok (.sipush 483, 3) := by decide +kernel
theorem dX6_asks_77 : decode cX6_asks 77 = .ok (.dup2, 1) := by decide +kernel
theorem dX6_asks_78 : decode cX6_asks 78 = .ok (.iaload, 1) := by decide +kernel
theorem dX6_asks_79 : decode cX6_asks 79 = .ok (.iconst 1, 1) := by decide +kernel
theorem dX6_asks_80 : decode cX6_asks 80 = .ok (.iadd, 1) := by decide +kernel
theorem dX6_asks_81 : decode cX6_asks 81 = .ok (.iastore, 1) := by decide +kernel
theorem dX6_asks_82 : decode cX6_asks 82 = .ok (.iload 4, 2) := by decide +kernel
theorem dX6_asks_84 : decode cX6_asks 84 = .ok (.ireturn, 1) := by decide +kernel
set_option maxRecDepth 20000 in
theorem ggX6_ask_X6_barAsk : GoodIn wsX6_ask wsX6_barAsk := goodIn_r _ [5, 6, 7, 8, 4, 9, 10, 11, 12, 26, 27, 28, 29, 30, 31, 32, 33, 34, 35, 36, 37, 38, 39, 40, 41, 42, 43] (by decide +kernel) (by decide +kernel)
set_option maxRecDepth 20000 in
theorem gX6_ask_X6_barAsk : GoodIn wsX6_ask (wsV RX6 42 RX6 yX6_barAsk wsX6_barAsk) := goodIn_app (goodIn_of _ (by decide +kernel)) ggX6_ask_X6_barAsk
set_option maxRecDepth 20000 in
theorem ggX6_ask_X6_records : GoodIn wsX6_ask wsX6_records := goodIn_r _ [16, 17, 18, 6, 26, 27, 28, 29, 30, 31, 32, 33, 34, 35, 36, 37, 38, 39, 40, 41, 42, 43] (by decide +kernel) (by decide +kernel)
set_option maxRecDepth 20000 in
theorem gX6_ask_X6_records : GoodIn wsX6_ask (wsV RX6 46 RX6 yX6_records wsX6_records) := goodIn_app (goodIn_of _ (by decide +kernel)) ggX6_ask_X6_records
set_option maxRecDepth 20000 in
theorem ggX6_ask_X6_asks : GoodIn wsX6_ask wsX6_asks := goodIn_r _ [22, 6, 23, 24, 4, 25, 26, 27, 28, 29, 30, 31, 32, 33, 34, 35, 36, 37, 38, 39, 40, 41, 42, 43] (by decide +kernel) (by decide +kernel)
set_option maxRecDepth 20000 in
theorem gX6_ask_X6_asks : GoodIn wsX6_ask (wsV RX6 49 RX6 yX6_asks wsX6_asks) := goodIn_app (goodIn_of _ (by decide +kernel)) ggX6_ask_X6_asks
theorem dX6_ask_0 : decode cX6_ask 0 = .ok (.aload_n 0, 1) := by decide +kernel
theorem dX6_ask_1 : decode cX6_ask 1 = .ok (.iload_n 1, 1) := by decide +kernel
theorem dX6_ask_2 : decode cX6_ask 2 = .ok (.iload_n 2, 1) := by decide +kernel
theorem dX6_ask_3 : decode cX6_ask 3 = .ok (.iload_n 3, 1) := by decide +kernel
theorem dX6_ask_4 : decode cX6_ask 4 = .ok (.invokevirtual 42, 3) := by decide +kernel
theorem dX6_ask_7 : decode cX6_ask 7 = .ok (.istore 4, 2) := by decide +kernel
theorem dX6_ask_9 : decode cX6_ask 9 = .ok (.iload 4, 2) := by decide +kernel
theorem dX6_ask_11 : decode cX6_ask 11 = .ok (.ifCond .ge 6, 3) := by decide +kernel
theorem dX6_ask_14 : decode cX6_ask 14 = .ok (.iload 4, 2) := by decide +kernel
theorem dX6_ask_16 : decode cX6_ask 16 = .ok (.ireturn, 1) := by decide +kernel
theorem dX6_ask_17 : decode cX6_ask 17 = .ok (.aload_n 0, 1) := by decide +kernel
theorem dX6_ask_18 : decode cX6_ask 18 = .ok (.invokevirtual 46, 3) := by decide +kernel
theorem dX6_ask_21 : decode cX6_ask 21 = .ok (.aload_n 0, 1) := by decide +kernel
theorem dX6_ask_22 : decode cX6_ask 22 = .ok (.iload_n 1, 1) := by decide +kernel
theorem dX6_ask_23 : decode cX6_ask 23 = .ok (.iload_n 2, 1) := by decide +kernel
theorem dX6_ask_24 : decode cX6_ask 24 = .ok (.iload_n 3, 1) := by decide +kernel
theorem dX6_ask_25 : decode cX6_ask 25 = .ok (.invokevirtual 49, 3) := by decide +kernel
theorem dX6_ask_28 : decode cX6_ask 28 = .ok (.ireturn, 1) := by decide +kernel
set_option maxRecDepth 20000 in
theorem ggX6_waiting_X6_ofA : GoodIn wsX6_waiting wsX6_ofA := goodIn_r _ [5] (by decide +kernel) (by decide +kernel)
set_option maxRecDepth 20000 in
theorem gX6_waiting_X6_ofA : GoodIn wsX6_waiting (va_wsS RX6 52 yX6_ofA wsX6_ofA) := goodIn_app (goodIn_of _ (by decide +kernel)) ggX6_waiting_X6_ofA
theorem dX6_waiting_0 : decode cX6_waiting 0 = .ok (.iconst 0, 1) := by decide +kernel
theorem dX6_waiting_1 : decode cX6_waiting 1 = .ok (.istore_n 2, 1) := by decide +kernel
theorem dX6_waiting_2 : decode cX6_waiting 2 = .ok (.iconst 0, 1) := by decide +kernel
theorem dX6_waiting_3 : decode cX6_waiting 3 = .ok (.istore_n 3, 1) := by decide +kernel
theorem dX6_waiting_4 : decode cX6_waiting 4 = .ok (.iload_n 3, 1) := by decide +kernel
theorem dX6_waiting_5 : decode cX6_waiting 5 = .ok (.aload_n 0, 1) := by decide +kernel
theorem dX6_waiting_6 : decode cX6_waiting 6 = .ok (.getfield 7, 3) := by decide +kernel
theorem dX6_waiting_9 : decode cX6_waiting 9 = .ok (.sipush 476, 3) := by decide +kernel
theorem dX6_waiting_12 : decode cX6_waiting 12 = .ok (.iaload, 1) := by decide +kernel
theorem dX6_waiting_13 : decode cX6_waiting 13 = .ok (.if_icmp .ge 40, 3) := by decide +kernel
theorem dX6_waiting_16 : decode cX6_waiting 16 = .ok (.iload_n 2, 1) := by decide +kernel
theorem dX6_waiting_17 : decode cX6_waiting 17 = .ok (.aload_n 0, 1) := by decide +kernel
theorem dX6_waiting_18 : decode cX6_waiting 18 = .ok (.getfield 7, 3) := by decide +kernel
theorem dX6_waiting_21 : decode cX6_waiting 21 = .ok (.aload_n 0, 1) := by decide +kernel
theorem dX6_waiting_22 : decode cX6_waiting 22 = .ok (.getfield 7, 3) := by decide +kernel
theorem dX6_waiting_25 : decode cX6_waiting 25 = .ok (.sipush 436, 3) := by decide +kernel
theorem dX6_waiting_28 : decode cX6_waiting 28 = .ok (.iload_n 3, 1) := by decide +kernel
theorem dX6_waiting_29 : decode cX6_waiting 29 = .ok (.iadd, 1) := by decide +kernel
theorem dX6_waiting_30 : decode cX6_waiting 30 = .ok (.iaload, 1) := by decide +kernel
theorem dX6_waiting_31 : decode cX6_waiting 31 = .ok (.iconst 1, 1) := by decide +kernel
theorem dX6_waiting_32 : decode cX6_waiting 32 = .ok (.invokestatic 52, 3) := by decide +kernel
theorem dX6_waiting_35 : decode cX6_waiting 35 = .ok (.iaload, 1) := by decide +kernel
theorem dX6_waiting_36 : decode cX6_waiting 36 = .ok (.iload_n 1, 1) := by decide +kernel
theorem dX6_waiting_37 : decode cX6_waiting 37 = .ok (.if_icmp .ne 7, 3) := by decide +kernel
theorem dX6_waiting_40 : decode cX6_waiting 40 = .ok (.iconst 1, 1) := by decide +kernel
theorem dX6_waiting_41 : decode cX6_waiting 41 = .ok (.goto 4, 3) := by decide +kernel
theorem dX6_waiting_44 : decode cX6_waiting 44 = .ok (.iconst 0, 1) := by decide +kernel
theorem dX6_waiting_45 : decode cX6_waiting 45 = .ok (.iadd, 1) := by decide +kernel
theorem dX6_waiting_46 : decode cX6_waiting 46 = .ok (.istore_n 2, 1) := by decide +kernel
theorem dX6_waiting_47 : decode cX6_waiting 47 = .ok (.iinc 3 1, 3) := by decide +kernel
theorem dX6_waiting_50 : decode cX6_waiting 50 = .ok (.goto (-46), 3) := by decide +kernel
theorem dX6_waiting_53 : decode cX6_waiting 53 = .ok (.iload_n 2, 1) := by decide +kernel
theorem dX6_waiting_54 : decode cX6_waiting 54 = .ok (.ireturn, 1) := by decide +kernel
set_option maxRecDepth 20000 in
theorem ggX6_withdraw_X6_isRiddle : GoodIn wsX6_withdraw wsX6_isRiddle := goodIn_r _ [6, 1, 7, 8, 5, 9, 26, 27, 28, 29, 30, 31, 32, 33, 34, 35, 36, 37, 38, 39, 40, 41, 42, 43] (by decide +kernel) (by decide +kernel)
set_option maxRecDepth 20000 in
theorem gX6_withdraw_X6_isRiddle : GoodIn wsX6_withdraw (wsV RX6 55 RX6 yX6_isRiddle wsX6_isRiddle) := goodIn_app (goodIn_of _ (by decide +kernel)) ggX6_withdraw_X6_isRiddle
set_option maxRecDepth 20000 in
theorem ggX6_withdraw_X6_ofR : GoodIn wsX6_withdraw wsX6_ofR := goodIn_r _ [12] (by decide +kernel) (by decide +kernel)
set_option maxRecDepth 20000 in
theorem gX6_withdraw_X6_ofR : GoodIn wsX6_withdraw (va_wsS RX6 38 yX6_ofR wsX6_ofR) := goodIn_app (goodIn_of _ (by decide +kernel)) ggX6_withdraw_X6_ofR
set_option maxRecDepth 20000 in
theorem ggX6_withdraw_X6_records : GoodIn wsX6_withdraw wsX6_records := goodIn_r _ [16, 17, 18, 1, 26, 27, 28, 29, 30, 31, 32, 33, 34, 35, 36, 37, 38, 39, 40, 41, 42, 43] (by decide +kernel) (by decide +kernel)
set_option maxRecDepth 20000 in
theorem gX6_withdraw_X6_records : GoodIn wsX6_withdraw (wsV RX6 46 RX6 yX6_records wsX6_records) := goodIn_app (goodIn_of _ (by decide +kernel)) ggX6_withdraw_X6_records
set_option maxRecDepth 20000 in
theorem ggX6_withdraw_X6_waiting : GoodIn wsX6_withdraw wsX6_waiting := goodIn_r _ [22, 1, 23, 24, 5, 25, 26, 27, 28, 29, 30, 31, 32, 33, 34, 35, 36, 37, 38, 39, 40, 41, 42, 43] (by decide +kernel) (by decide +kernel)
set_option maxRecDepth 20000 in
theorem gX6_withdraw_X6_waiting : GoodIn wsX6_withdraw (wsV RX6 58 RX6 yX6_waiting wsX6_waiting) := goodIn_app (goodIn_of _ (by decide +kernel)) ggX6_withdraw_X6_waiting
theorem dX6_withdraw_0 : decode cX6_withdraw 0 = .ok (.aload_n 0, 1) := by decide +kernel
theorem dX6_withdraw_1 : decode cX6_withdraw 1 = .ok (.iload_n 1, 1) := by decide +kernel
theorem dX6_withdraw_2 : decode cX6_withdraw 2 = .ok (.invokevirtual 55, 3) := by decide +kernel
theorem dX6_withdraw_5 : decode cX6_withdraw 5 = .ok (.ifCond .ne 5, 3) := by decide +kernel
theorem dX6_withdraw_8 : decode cX6_withdraw 8 = .ok (.iconst (-1), 1) := by decide +kernel
theorem dX6_withdraw_9 : decode cX6_withdraw 9 = .ok (.ireturn, 1) := by decide +kernel
theorem dX6_withdraw_10 : decode cX6_withdraw 10 = .ok (.aload_n 0, 1) := by decide +kernel
theorem dX6_withdraw_11 : decode cX6_withdraw 11 = .ok (.getfield 7, 3) := by decide +kernel
theorem dX6_withdraw_14 : decode cX6_withdraw 14 = .ok (.iload_n 1, 1) := by decide +kernel
theorem dX6_withdraw_15 : decode cX6_withdraw 15 = .ok (.iconst 3, 1) := by decide +kernel
theorem dX6_withdraw_16 : decode cX6_withdraw 16 = .ok (.invokestatic 38, 3) := by decide +kernel
theorem dX6_withdraw_19 : decode cX6_withdraw 19 = .ok (.iaload, 1) := by decide +kernel
theorem dX6_withdraw_20 : decode cX6_withdraw 20 = .ok (.ifCond .eq 6, 3) := by decide +kernel
theorem dX6_withdraw_23 : decode cX6_withdraw 23 = .ok (.bipush (-4), 2) := by decide +kernel
theorem dX6_withdraw_25 : decode cX6_withdraw 25 = .ok (.ireturn, 1) := by decide +kernel
theorem dX6_withdraw_26 : decode cX6_withdraw 26 = .ok (.aload_n 0, 1) := by decide +kernel
theorem dX6_withdraw_27 : decode cX6_withdraw 27 = .ok (.invokevirtual 46, 3) := by decide +kernel
theorem dX6_withdraw_30 : decode cX6_withdraw 30 = .ok (.aload_n 0, 1) := by decide +kernel
theorem dX6_withdraw_31 : decode cX6_withdraw 31 = .ok (.getfield 7, 3) := by decide +kernel
theorem dX6_withdraw_34 : decode cX6_withdraw 34 = .ok (.iload_n 1, 1) := by decide +kernel
theorem dX6_withdraw_35 : decode cX6_withdraw 35 = .ok (.iconst 3, 1) := by decide +kernel
theorem dX6_withdraw_36 : decode cX6_withdraw 36 = .ok (.invokestatic 38, 3) := by decide +kernel
theorem dX6_withdraw_39 : decode cX6_withdraw 39 = .ok (.iconst 2, 1) := by decide +kernel
theorem dX6_withdraw_40 : decode cX6_withdraw 40 = .ok (.iastore, 1) := by decide +kernel
theorem dX6_withdraw_41 : decode cX6_withdraw 41 = .ok (.aload_n 0, 1) := by decide +kernel
theorem dX6_withdraw_42 : decode cX6_withdraw 42 = .ok (.iload_n 1, 1) := by decide +kernel
theorem dX6_withdraw_43 : decode cX6_withdraw 43 = .ok (.invokevirtual 58, 3) := by decide +kernel
theorem dX6_withdraw_46 : decode cX6_withdraw 46 = .ok (.ireturn, 1) := by decide +kernel
set_option maxRecDepth 20000 in
theorem ggX6_barDeliver_X6_isTrader : GoodIn wsX6_barDeliver wsX6_isTrader := goodIn_r _ [5, 6, 7, 4, 8] (by decide +kernel) (by decide +kernel)
set_option maxRecDepth 20000 in
theorem gX6_barDeliver_X6_isTrader : GoodIn wsX6_barDeliver (va_wsS RX6 34 yX6_isTrader wsX6_isTrader) := goodIn_app (goodIn_of _ (by decide +kernel)) ggX6_barDeliver_X6_isTrader
set_option maxRecDepth 20000 in
theorem ggX6_barDeliver_X6_isRiddle : GoodIn wsX6_barDeliver wsX6_isRiddle := goodIn_r _ [12, 1, 6, 7, 4, 8, 16, 17, 18, 19, 20, 21, 22, 23, 24, 25, 26, 27, 28, 29, 30, 31, 32, 33] (by decide +kernel) (by decide +kernel)
set_option maxRecDepth 20000 in
theorem gX6_barDeliver_X6_isRiddle : GoodIn wsX6_barDeliver (wsV RX6 55 RX6 yX6_isRiddle wsX6_isRiddle) := goodIn_app (goodIn_of _ (by decide +kernel)) ggX6_barDeliver_X6_isRiddle
set_option maxRecDepth 20000 in
theorem ggX6_barDeliver_X6_in : GoodIn wsX6_barDeliver wsX6_in := goodIn_r _ [8] (by decide +kernel) (by decide +kernel)
set_option maxRecDepth 20000 in
theorem gX6_barDeliver_X6_in : GoodIn wsX6_barDeliver (va_wsS RX6 26 yX6_in wsX6_in) := goodIn_app (goodIn_of _ (by decide +kernel)) ggX6_barDeliver_X6_in
set_option maxRecDepth 20000 in
theorem ggX6_barDeliver_X6_ofR : GoodIn wsX6_barDeliver wsX6_ofR := goodIn_r _ [15] (by decide +kernel) (by decide +kernel)
set_option maxRecDepth 20000 in
theorem gX6_barDeliver_X6_ofR : GoodIn wsX6_barDeliver (va_wsS RX6 38 yX6_ofR wsX6_ofR) := goodIn_app (goodIn_of _ (by decide +kernel)) ggX6_barDeliver_X6_ofR
theorem dX6_barDeliver_0 : decode cX6_barDeliver 0 = .ok (.iload_n 1, 1) := by decide +kernel
theorem dX6_barDeliver_1 : decode cX6_barDeliver 1 = .ok (.invokestatic 34, 3) := by decide +kernel
theorem dX6_barDeliver_4 : decode cX6_barDeliver 4 = .ok (.ifCond .eq 11, 3) := by decide +kernel
theorem dX6_barDeliver_7 : decode cX6_barDeliver 7 = .ok (.aload_n 0, 1) := by decide +kernel
theorem dX6_barDeliver_8 : decode cX6_barDeliver 8 = .ok (.iload_n 2, 1) := by decide +kernel
theorem dX6_barDeliver_9 : decode cX6_barDeliver 9 = .ok (.invokevirtual 55, 3) := by decide +kernel
theorem dX6_barDeliver_12 : decode cX6_barDeliver 12 = .ok (.ifCond .ne 5, 3) := by decide +kernel
theorem dX6_barDeliver_15 : decode cX6_barDeliver 15 = .ok (.iconst (-1), 1) := by decide +kernel
theorem dX6_barDeliver_16 : decode cX6_barDeliver 16 = .ok (.ireturn, 1) := by decide +kernel
theorem dX6_barDeliver_17 : decode cX6_barDeliver 17 = .ok (.iload_n 3, 1) := by decide +kernel
theorem dX6_barDeliver_18 : decode cX6_barDeliver 18 = .ok (.iconst 0, 1) := by decide +kernel
theorem dX6_barDeliver_19 : decode cX6_barDeliver 19 = .ok (.bipush 99, 2) := by decide +kernel
theorem dX6_barDeliver_21 : decode cX6_barDeliver 21 = .ok (.invokestatic 26, 3) := by decide +kernel
theorem dX6_barDeliver_24 : decode cX6_barDeliver 24 = .ok (.ifCond .eq 14, 3) := by decide +kernel
theorem dX6_barDeliver_27 : decode cX6_barDeliver 27 = .ok (.iload 4, 2) := by decide +kernel
theorem dX6_barDeliver_29 : decode cX6_barDeliver 29 = .ok (.iconst 1, 1) := by decide +kernel
theorem dX6_barDeliver_30 : decode cX6_barDeliver 30 = .ok (.bipush 99, 2) := by decide +kernel
theorem dX6_barDeliver_32 : decode cX6_barDeliver 32 = .ok (.invokestatic 26, 3) := by decide +kernel
theorem dX6_barDeliver_35 : decode cX6_barDeliver 35 = .ok (.ifCond .ne 6, 3) := by decide +kernel
theorem dX6_barDeliver_38 : decode cX6_barDeliver 38 = .ok (.bipush (-2), 2) := by decide +kernel
theorem dX6_barDeliver_40 : decode cX6_barDeliver 40 = .ok (.ireturn, 1) := by decide +kernel
theorem dX6_barDeliver_41 : decode cX6_barDeliver 41 = .ok (.aload_n 0, 1) := by decide +kernel
theorem dX6_barDeliver_42 : decode cX6_barDeliver 42 = .ok (.getfield 7, 3) := by decide +kernel
theorem dX6_barDeliver_45 : decode cX6_barDeliver 45 = .ok (.iload_n 2, 1) := by decide +kernel
theorem dX6_barDeliver_46 : decode cX6_barDeliver 46 = .ok (.iconst 3, 1) := by decide +kernel
theorem dX6_barDeliver_47 : decode cX6_barDeliver 47 = .ok (.invokestatic 38, 3) := by decide +kernel
theorem dX6_barDeliver_50 : decode cX6_barDeliver 50 = .ok (.iaload, 1) := by decide +kernel
theorem dX6_barDeliver_51 : decode cX6_barDeliver 51 = .ok (.ifCond .ne 17, 3) := by decide +kernel
theorem dX6_barDeliver_54 : decode cX6_barDeliver 54 = .ok (.aload_n 0, 1) := by decide +kernel
theorem dX6_barDeliver_55 : decode cX6_barDeliver 55 = .ok (.getfield 7, 3) := by decide +kernel
theorem dX6_barDeliver_58 : decode cX6_barDeliver 58 = .ok (.iload_n 2, 1) := by decide +kernel
theorem dX6_barDeliver_59 : decode cX6_barDeliver 59 = .ok (.iconst 0, 1) := by decide +kernel
theorem dX6_barDeliver_60 : decode cX6_barDeliver 60 = .ok (.invokestatic 38, 3) := by decide +kernel
theorem dX6_barDeliver_63 : decode cX6_barDeliver 63 = .ok (.iaload, 1) := by decide +kernel
theorem dX6_barDeliver_64 : decode cX6_barDeliver 64 = .ok (.iload_n 1, 1) := by decide +kernel
theorem dX6_barDeliver_65 : decode cX6_barDeliver 65 = .ok (.if_icmp .ne 8, 3) := by decide +kernel
theorem dX6_barDeliver_68 : decode cX6_barDeliver 68 = .ok (.bipush (-4), 2) := by decide +kernel
theorem dX6_barDeliver_70 : decode cX6_barDeliver 70 = .ok (.goto 22, 3) := by decide +kernel
theorem dX6_barDeliver_73 : decode cX6_barDeliver 73 = .ok (.aload_n 0, 1) := by decide +kernel
theorem dX6_barDeliver_74 : decode cX6_barDeliver 74 = .ok (.getfield 7, 3) := by decide +kernel
theorem dX6_barDeliver_77 : decode cX6_barDeliver 77 = .ok (.sipush 484, 3) := by decide +kernel
theorem dX6_barDeliver_80 : decode cX6_barDeliver 80 = .ok (.iaload, 1) := by decide +kernel
theorem dX6_barDeliver_81 : decode cX6_barDeliver 81 = .ok (.bipush 40, 2) := by decide +kernel
theorem dX6_barDeliver_83 : decode cX6_barDeliver 83 = .ok (.if_icmp .ne 8, 3) := by decide +kernel
theorem dX6_barDeliver_86 : decode cX6_barDeliver 86 = .ok (.bipush (-3), 2) := by decide +kernel
theorem dX6_barDeliver_88 : decode cX6_barDeliver 88 = .ok (.goto 4, 3) := by decide +kernel
theorem dX6_barDeliver_91 : decode cX6_barDeliver 91 = .ok (.iconst 0, 1) := by decide +kernel
theorem dX6_barDeliver_92 : decode cX6_barDeliver 92 = .ok (.ireturn, 1) := by decide +kernel
theorem dX6_queues_0 : decode cX6_queues 0 = .ok (.aload_n 0, 1) := by decide +kernel
theorem dX6_queues_1 : decode cX6_queues 1 = .ok (.getfield 7, 3) := by decide +kernel
theorem dX6_queues_4 : decode cX6_queues 4 = .ok (.sipush 436, 3) := by decide +kernel
theorem dX6_queues_7 : decode cX6_queues 7 = .ok (.aload_n 0, 1) := by decide +kernel
theorem dX6_queues_8 : decode cX6_queues 8 = .ok (.getfield 7, 3) := by decide +kernel
theorem dX6_queues_11 : decode cX6_queues 11 = .ok (.sipush 476, 3) := by decide +kernel
theorem dX6_queues_14 : decode cX6_queues 14 = .ok (.iaload, 1) := by decide +kernel
theorem dX6_queues_15 : decode cX6_queues 15 = .ok (.iadd, 1) := by decide +kernel
theorem dX6_queues_16 : decode cX6_queues 16 = .ok (.iload_n 1, 1) := by decide +kernel
theorem dX6_queues_17 : decode cX6_queues 17 = .ok (.iastore, 1) := by decide +kernel
theorem dX6_queues_18 : decode cX6_queues 18 = .ok (.aload_n 0, 1) := by decide +kernel
theorem dX6_queues_19 : decode cX6_queues 19 = .ok (.getfield 7, 3) := by decide +kernel
theorem dX6_queues_22 : decode cX6_queues 22 = .ok (.sipush 476, 3) := by decide +kernel
theorem dX6_queues_25 : decode cX6_queues 25 = .ok (.dup2, 1) := by decide +kernel
theorem dX6_queues_26 : decode cX6_queues 26 = .ok (.iaload, 1) := by decide +kernel
theorem dX6_queues_27 : decode cX6_queues 27 = .ok (.iconst 1, 1) := by decide +kernel
theorem dX6_queues_28 : decode cX6_queues 28 = .ok (.iadd, 1) := by decide +kernel
theorem dX6_queues_29 : decode cX6_queues 29 = .ok (.iastore, 1) := by decide +kernel
theorem dX6_queues_30 : decode cX6_queues 30 = .ok (.return_, 1) := by decide +kernel
set_option maxRecDepth 20000 in
theorem ggX6_delivers_X6_ofA : GoodIn wsX6_delivers wsX6_ofA := goodIn_r _ [5] (by decide +kernel) (by decide +kernel)
set_option maxRecDepth 20000 in
theorem gX6_delivers_X6_ofA : GoodIn wsX6_delivers (va_wsS RX6 52 yX6_ofA wsX6_ofA) := goodIn_app (goodIn_of _ (by decide +kernel)) ggX6_delivers_X6_ofA
set_option maxRecDepth 20000 in
theorem ggX6_delivers_X6_queues : GoodIn wsX6_delivers wsX6_queues := goodIn_r _ [9, 1, 10, 11, 12, 13, 14, 15, 16, 17, 18, 19, 20, 21, 22, 23, 24, 25, 26, 27] (by decide +kernel) (by decide +kernel)
set_option maxRecDepth 20000 in
theorem gX6_delivers_X6_queues : GoodIn wsX6_delivers (wsV RX6 62 RX6 yX6_queues wsX6_queues) := goodIn_app (goodIn_of _ (by decide +kernel)) ggX6_delivers_X6_queues
theorem dX6_delivers_0 : decode cX6_delivers 0 = .ok (.aload_n 0, 1) := by decide +kernel
theorem dX6_delivers_1 : decode cX6_delivers 1 = .ok (.getfield 7, 3) := by decide +kernel
theorem dX6_delivers_4 : decode cX6_delivers 4 = .ok (.sipush 484, 3) := by decide +kernel
theorem dX6_delivers_7 : decode cX6_delivers 7 = .ok (.iaload, 1) := by decide +kernel
theorem dX6_delivers_8 : decode cX6_delivers 8 = .ok (.istore 5, 2) := by decide +kernel
theorem dX6_delivers_10 : decode cX6_delivers 10 = .ok (.aload_n 0, 1) := by decide +kernel
theorem dX6_delivers_11 : decode cX6_delivers 11 = .ok (.getfield 7, 3) := by decide +kernel
theorem dX6_delivers_14 : decode cX6_delivers 14 = .ok (.iload 5, 2) := by decide +kernel
theorem dX6_delivers_16 : decode cX6_delivers 16 = .ok (.iconst 0, 1) := by decide +kernel
theorem dX6_delivers_17 : decode cX6_delivers 17 = .ok (.invokestatic 52, 3) := by decide +kernel
theorem dX6_delivers_20 : decode cX6_delivers 20 = .ok (.iload_n 1, 1) := by decide +kernel
theorem dX6_delivers_21 : decode cX6_delivers 21 = .ok (.iastore, 1) := by decide +kernel
theorem dX6_delivers_22 : decode cX6_delivers 22 = .ok (.aload_n 0, 1) := by decide +kernel
theorem dX6_delivers_23 : decode cX6_delivers 23 = .ok (.getfield 7, 3) := by decide +kernel
theorem dX6_delivers_26 : decode cX6_delivers 26 = .ok (.iload 5, 2) := by decide +kernel
theorem dX6_delivers_28 : decode cX6_delivers 28 = .ok (.iconst 1, 1) := by decide +kernel
theorem dX6_delivers_29 : decode cX6_delivers 29 = .ok (.invokestatic 52, 3) := by decide +kernel
theorem dX6_delivers_32 : decode cX6_delivers 32 = .ok (.iload_n 2, 1) := by decide +kernel
theorem dX6_delivers_33 : decode cX6_delivers 33 = .ok (.iastore, 1) := by decide +kernel
theorem dX6_delivers_34 : decode cX6_delivers 34 = .ok (.aload_n 0, 1) := by decide +kernel
theorem dX6_delivers_35 : decode cX6_delivers 35 = .ok (.getfield 7, 3) := by decide +kernel
theorem dX6_delivers_38 : decode cX6_delivers 38 = .ok (.iload 5, 2) := by decide +kernel
theorem dX6_delivers_40 : decode cX6_delivers 40 = .ok (.iconst 2, 1) := by decide +kernel
theorem dX6_delivers_41 : decode cX6_delivers 41 = .ok (.invokestatic 52, 3) := by decide +kernel
theorem dX6_delivers_44 : decode cX6_delivers 44 = .ok (.iload_n 3, 1) := by decide +kernel
theorem dX6_delivers_45 : decode cX6_delivers 45 = .ok (.iastore, 1) := by decide +kernel
theorem dX6_delivers_46 : decode cX6_delivers 46 = .ok (.aload_n 0, 1) := by decide +kernel
theorem dX6_delivers_47 : decode cX6_delivers 47 = .ok (.getfield 7, 3) := by decide +kernel
theorem dX6_delivers_50 : decode cX6_delivers 50 = .ok (.iload 5, 2) := by decide +kernel
theorem dX6_delivers_52 : decode cX6_delivers 52 = .ok (.iconst 3, 1) := by decide +kernel
theorem dX6_delivers_53 : decode cX6_delivers 53 = .ok (.invokestatic 52, 3) := by decide +kernel
theorem dX6_delivers_56 : decode cX6_delivers 56 = .ok (.iload 4, 2) := by decide +kernel
theorem dX6_delivers_58 : decode cX6_delivers 58 = .ok (.iastore, 1) := by decide +kernel
theorem dX6_delivers_59 : decode cX6_delivers 59 = .ok (.iconst 4, 1) := by decide +kernel
theorem dX6_delivers_60 : decode cX6_delivers 60 = .ok (.istore 6, 2) := by decide +kernel
theorem dX6_delivers_62 : decode cX6_delivers 62 = .ok (.iload 6, 2) := by decide +kernel
theorem dX6_delivers_64 : decode cX6_delivers 64 = .ok (.bipush 8, 2) := by decide +kernel
theorem dX6_delivers_66 : decode cX6_delivers 66 = .ok (.if_icmp .ge 22, 3) := by decide +kernel
theorem dX6_delivers_69 : decode cX6_delivers 69 = .ok (.aload_n 0, 1) := by decide +kernel
theorem dX6_delivers_70 : decode cX6_delivers 70 = .ok (.getfield 7, 3) := by decide +kernel
theorem dX6_delivers_73 : decode cX6_delivers 73 = .ok (.iload 5, 2) := by decide +kernel
theorem dX6_delivers_75 : decode cX6_delivers 75 = .ok (.iload 6, 2) := by decide +kernel
theorem dX6_delivers_77 : decode cX6_delivers 77 = .ok (.invokestatic 52, 3) := by decide +kernel
theorem dX6_delivers_80 : decode cX6_delivers 80 = .ok (.iconst 0, 1) := by decide +kernel
theorem dX6_delivers_81 : decode cX6_delivers 81 = .ok (.iastore, 1) := by decide +kernel
theorem dX6_delivers_82 : decode cX6_delivers 82 = .ok (.iinc 6 1, 3) := by decide +kernel
theorem dX6_delivers_85 : decode cX6_delivers 85 = .ok (.goto (-23), 3) := by decide +kernel
theorem dX6_delivers_88 : decode cX6_delivers 88 = .ok (.aload_n 0, 1) := by decide +kernel
theorem dX6_delivers_89 : decode cX6_delivers 89 = .ok (.getfield 7, 3) := by decide +kernel
theorem dX6_delivers_92 : decode cX6_delivers 92 = .ok (.sipush 484, 3) := by decide +kernel
theorem dX6_delivers_95 : decode cX6_delivers 95 = .ok (.dup2, 1) := by decide +kernel
theorem dX6_delivers_96 : decode cX6_delivers 96 = .ok (.iaload, 1) := by decide +kernel
theorem dX6_delivers_97 : decode cX6_delivers 97 = .ok (.iconst 1, 1) := by decide +kernel
theorem dX6_delivers_98 : decode cX6_delivers 98 = .ok (.iadd, 1) := by decide +kernel
theorem dX6_delivers_99 : decode cX6_delivers 99 = .ok (.iastore, 1) := by decide +kernel
theorem dX6_delivers_100 : decode cX6_delivers 100 = .ok (.aload_n 0, 1) := by decide +kernel
theorem dX6_delivers_101 : decode cX6_delivers 101 = .ok (.iload 5, 2) := by decide +kernel
theorem dX6_delivers_103 : decode cX6_delivers 103 = .ok (.invokevirtual 62, 3) := by decide +kernel
theorem dX6_delivers_106 : decode cX6_delivers 106 = .ok (.iload 5, 2) := by decide +kernel
theorem dX6_delivers_108 : decode cX6_delivers 108 = .ok (.ireturn, 1) := by decide +kernel
set_option maxRecDepth 20000 in
theorem ggX6_deliver_X6_barDeliver : GoodIn wsX6_deliver wsX6_barDeliver := goodIn_r _ [5, 6, 7, 8, 4, 9, 10, 11, 12, 13, 14, 15, 16, 17, 18, 19, 37, 38, 39, 40, 41, 42, 43, 44, 45, 46, 47, 48, 49, 50, 51, 52, 53, 54] (by decide +kernel) (by decide +kernel)
set_option maxRecDepth 20000 in
theorem gX6_deliver_X6_barDeliver : GoodIn wsX6_deliver (wsV RX6 66 RX6 yX6_barDeliver wsX6_barDeliver) := goodIn_app (goodIn_of _ (by decide +kernel)) ggX6_deliver_X6_barDeliver
set_option maxRecDepth 20000 in
theorem ggX6_deliver_X6_records : GoodIn wsX6_deliver wsX6_records := goodIn_r _ [23, 24, 25, 6, 37, 38, 39, 40, 41, 42, 43, 44, 45, 46, 47, 48, 49, 50, 51, 52, 53, 54] (by decide +kernel) (by decide +kernel)
set_option maxRecDepth 20000 in
theorem gX6_deliver_X6_records : GoodIn wsX6_deliver (wsV RX6 46 RX6 yX6_records wsX6_records) := goodIn_app (goodIn_of _ (by decide +kernel)) ggX6_deliver_X6_records
set_option maxRecDepth 20000 in
theorem ggX6_deliver_X6_delivers : GoodIn wsX6_deliver wsX6_delivers := goodIn_r _ [29, 6, 30, 31, 4, 32, 33, 34, 35, 36, 37, 38, 39, 40, 41, 42, 43, 44, 45, 46, 47, 48, 49, 50, 51, 52, 53, 54] (by decide +kernel) (by decide +kernel)
set_option maxRecDepth 20000 in
theorem gX6_deliver_X6_delivers : GoodIn wsX6_deliver (wsV RX6 70 RX6 yX6_delivers wsX6_delivers) := goodIn_app (goodIn_of _ (by decide +kernel)) ggX6_deliver_X6_delivers
theorem dX6_deliver_0 : decode cX6_deliver 0 = .ok (.aload_n 0, 1) := by decide +kernel
theorem dX6_deliver_1 : decode cX6_deliver 1 = .ok (.iload_n 1, 1) := by decide +kernel
theorem dX6_deliver_2 : decode cX6_deliver 2 = .ok (.iload_n 2, 1) := by decide +kernel
theorem dX6_deliver_3 : decode cX6_deliver 3 = .ok (.iload_n 3, 1) := by decide +kernel
theorem dX6_deliver_4 : decode cX6_deliver 4 = .ok (.iload 4, 2) := by decide +kernel
theorem dX6_deliver_6 : decode cX6_deliver 6 = .ok (.invokevirtual 66, 3) := by decide +kernel
theorem dX6_deliver_9 : decode cX6_deliver 9 = .ok (.istore 5, 2) := by decide +kernel
theorem dX6_deliver_11 : decode cX6_deliver 11 = .ok (.iload 5, 2) := by decide +kernel
theorem dX6_deliver_13 : decode cX6_deliver 13 = .ok (.ifCond .ge 6, 3) := by decide +kernel
theorem dX6_deliver_16 : decode cX6_deliver 16 = .ok (.iload 5, 2) := by decide +kernel
theorem dX6_deliver_18 : decode cX6_deliver 18 = .ok (.ireturn, 1) := by decide +kernel
theorem dX6_deliver_19 : decode cX6_deliver 19 = .ok (.aload_n 0, 1) := by decide +kernel
theorem dX6_deliver_20 : decode cX6_deliver 20 = .ok (.invokevirtual 46, 3) := by decide +kernel
theorem dX6_deliver_23 : decode cX6_deliver 23 = .ok (.aload_n 0, 1) := by decide +kernel
theorem dX6_deliver_24 : decode cX6_deliver 24 = .ok (.iload_n 1, 1) := by decide +kernel
theorem dX6_deliver_25 : decode cX6_deliver 25 = .ok (.iload_n 2, 1) := by decide +kernel
theorem dX6_deliver_26 : decode cX6_deliver 26 = .ok (.iload_n 3, 1) := by decide +kernel
theorem dX6_deliver_27 : decode cX6_deliver 27 = .ok (.iload 4, 2) := by decide +kernel
theorem dX6_deliver_29 : decode cX6_deliver 29 = .ok (.invokevirtual 70, 3) := by decide +kernel
theorem dX6_deliver_32 : decode cX6_deliver 32 = .ok (.ireturn, 1) := by decide +kernel
theorem dX6_size_0 : decode cX6_size 0 = .ok (.iload_n 0, 1) := by decide +kernel
theorem dX6_size_1 : decode cX6_size 1 = .ok (.ifCond .ge 8, 3) := by decide +kernel
theorem dX6_size_4 : decode cX6_size 4 = .ok (.iload_n 0, 1) := by decide +kernel
theorem dX6_size_5 : decode cX6_size 5 = .ok (.ineg, 1) := by decide +kernel
theorem dX6_size_6 : decode cX6_size 6 = .ok (.goto 4, 3) := by decide +kernel
theorem dX6_size_9 : decode cX6_size 9 = .ok (.iload_n 0, 1) := by decide +kernel
theorem dX6_size_10 : decode cX6_size 10 = .ok (.ireturn, 1) := by decide +kernel
set_option maxRecDepth 20000 in
theorem ggX6_adjust_X6_size : GoodIn wsX6_adjust wsX6_size := goodIn_r _ [5] (by decide +kernel) (by decide +kernel)
set_option maxRecDepth 20000 in
theorem gX6_adjust_X6_size : GoodIn wsX6_adjust (va_wsS RX6 73 yX6_size wsX6_size) := goodIn_app (goodIn_of _ (by decide +kernel)) ggX6_adjust_X6_size
set_option maxRecDepth 20000 in
theorem ggX6_adjust_X6_records : GoodIn wsX6_adjust wsX6_records := goodIn_r _ [9, 10, 11, 1, 12, 13, 14, 15, 16, 17, 18, 19, 20, 21, 22, 23, 24, 25, 26, 27, 28, 29] (by decide +kernel) (by decide +kernel)
set_option maxRecDepth 20000 in
theorem gX6_adjust_X6_records : GoodIn wsX6_adjust (wsV RX6 46 RX6 yX6_records wsX6_records) := goodIn_app (goodIn_of _ (by decide +kernel)) ggX6_adjust_X6_records
theorem dX6_adjust_0 : decode cX6_adjust 0 = .ok (.aload_n 0, 1) := by decide +kernel
theorem dX6_adjust_1 : decode cX6_adjust 1 = .ok (.getfield 7, 3) := by decide +kernel
theorem dX6_adjust_4 : decode cX6_adjust 4 = .ok (.sipush 477, 3) := by decide +kernel
theorem dX6_adjust_7 : decode cX6_adjust 7 = .ok (.iaload, 1) := by decide +kernel
theorem dX6_adjust_8 : decode cX6_adjust 8 = .ok (.invokestatic 73, 3) := by decide +kernel
theorem dX6_adjust_11 : decode cX6_adjust 11 = .ok (.aload_n 0, 1) := by decide +kernel
theorem dX6_adjust_12 : decode cX6_adjust 12 = .ok (.getfield 7, 3) := by decide +kernel
theorem dX6_adjust_15 : decode cX6_adjust 15 = .ok (.sipush 478, 3) := by decide +kernel
theorem dX6_adjust_18 : decode cX6_adjust 18 = .ok (.iaload, 1) := by decide +kernel
theorem dX6_adjust_19 : decode cX6_adjust 19 = .ok (.invokestatic 73, 3) := by decide +kernel
theorem dX6_adjust_22 : decode cX6_adjust 22 = .ok (.iadd, 1) := by decide +kernel
theorem dX6_adjust_23 : decode cX6_adjust 23 = .ok (.istore_n 1, 1) := by decide +kernel
theorem dX6_adjust_24 : decode cX6_adjust 24 = .ok (.iload_n 1, 1) := by decide +kernel
theorem dX6_adjust_25 : decode cX6_adjust 25 = .ok (.ifCond .ne 6, 3) := by decide +kernel
theorem dX6_adjust_28 : decode cX6_adjust 28 = .ok (.bipush (-5), 2) := by decide +kernel
theorem dX6_adjust_30 : decode cX6_adjust 30 = .ok (.ireturn, 1) := by decide +kernel
theorem dX6_adjust_31 : decode cX6_adjust 31 = .ok (.aload_n 0, 1) := by decide +kernel
theorem dX6_adjust_32 : decode cX6_adjust 32 = .ok (.invokevirtual 46, 3) := by decide +kernel
theorem dX6_adjust_35 : decode cX6_adjust 35 = .ok (.aload_n 0, 1) := by decide +kernel
theorem dX6_adjust_36 : decode cX6_adjust 36 = .ok (.getfield 7, 3) := by decide +kernel
theorem dX6_adjust_39 : decode cX6_adjust 39 = .ok (.sipush 477, 3) := by decide +kernel
theorem dX6_adjust_42 : decode cX6_adjust 42 = .ok (.iconst 0, 1) := by decide +kernel
theorem dX6_adjust_43 : decode cX6_adjust 43 = .ok (.iastore, 1) := by decide +kernel
theorem dX6_adjust_44 : decode cX6_adjust 44 = .ok (.aload_n 0, 1) := by decide +kernel
theorem dX6_adjust_45 : decode cX6_adjust 45 = .ok (.getfield 7, 3) := by decide +kernel
theorem dX6_adjust_48 : decode cX6_adjust 48 = .ok (.sipush 478, 3) := by decide +kernel
theorem dX6_adjust_51 : decode cX6_adjust 51 = .ok (.iconst 0, 1) := by decide +kernel
theorem dX6_adjust_52 : decode cX6_adjust 52 = .ok (.iastore, 1) := by decide +kernel
theorem dX6_adjust_53 : decode cX6_adjust 53 = .ok (.iload_n 1, 1) := by decide +kernel
theorem dX6_adjust_54 : decode cX6_adjust 54 = .ok (.ireturn, 1) := by decide +kernel
set_option maxRecDepth 20000 in
theorem ggX6_set_X6_in : GoodIn wsX6_set wsX6_in := goodIn_r _ [5] (by decide +kernel) (by decide +kernel)
set_option maxRecDepth 20000 in
theorem gX6_set_X6_in : GoodIn wsX6_set (va_wsS RX6 26 yX6_in wsX6_in) := goodIn_app (goodIn_of _ (by decide +kernel)) ggX6_set_X6_in
set_option maxRecDepth 20000 in
theorem ggX6_set_X6_records : GoodIn wsX6_set wsX6_records := goodIn_r _ [9, 10, 11, 1, 12, 13, 14, 15, 16, 17, 18, 19, 20, 21, 22, 23, 24, 25, 26, 27, 28, 29] (by decide +kernel) (by decide +kernel)
set_option maxRecDepth 20000 in
theorem gX6_set_X6_records : GoodIn wsX6_set (wsV RX6 46 RX6 yX6_records wsX6_records) := goodIn_app (goodIn_of _ (by decide +kernel)) ggX6_set_X6_records
theorem dX6_set_0 : decode cX6_set 0 = .ok (.iload_n 1, 1) := by decide +kernel
theorem dX6_set_1 : decode cX6_set 1 = .ok (.iconst 0, 1) := by decide +kernel
theorem dX6_set_2 : decode cX6_set 2 = .ok (.iconst 3, 1) := by decide +kernel
theorem dX6_set_3 : decode cX6_set 3 = .ok (.invokestatic 26, 3) := by decide +kernel
theorem dX6_set_6 : decode cX6_set 6 = .ok (.ifCond .ne 5, 3) := by decide +kernel
theorem dX6_set_9 : decode cX6_set 9 = .ok (.iconst (-1), 1) := by decide +kernel
theorem dX6_set_10 : decode cX6_set 10 = .ok (.ireturn, 1) := by decide +kernel
theorem dX6_set_11 : decode cX6_set 11 = .ok (.iload_n 2, 1) := by decide +kernel
theorem dX6_set_12 : decode cX6_set 12 = .ok (.iload_n 1, 1) := by decide +kernel
theorem dX6_set_13 : decode cX6_set 13 = .ok (.iconst 2, 1) := by decide +kernel
theorem dX6_set_14 : decode cX6_set 14 = .ok (.if_icmp .ne 7, 3) := by decide +kernel
theorem dX6_set_17 : decode cX6_set 17 = .ok (.iconst 1, 1) := by decide +kernel
theorem dX6_set_18 : decode cX6_set 18 = .ok (.goto 4, 3) := by decide +kernel
theorem dX6_set_21 : decode cX6_set 21 = .ok (.iconst 0, 1) := by decide +kernel
theorem dX6_set_22 : decode cX6_set 22 = .ok (.iload_n 1, 1) := by decide +kernel
theorem dX6_set_23 : decode cX6_set 23 = .ok (.iconst 3, 1) := by decide +kernel
theorem dX6_set_24 : decode cX6_set 24 = .ok (.if_icmp .ne 9, 3) := by decide +kernel
theorem dX6_set_27 : decode cX6_set 27 = .ok (.sipush 500, 3) := by decide +kernel
theorem dX6_set_30 : decode cX6_set 30 = .ok (.goto 5, 3) := by decide +kernel
theorem dX6_set_33 : decode cX6_set 33 = .ok (.bipush 9, 2) := by decide +kernel
theorem dX6_set_35 : decode cX6_set 35 = .ok (.invokestatic 26, 3) := by decide +kernel
theorem dX6_set_38 : decode cX6_set 38 = .ok (.ifCond .ne 6, 3) := by decide +kernel
theorem dX6_set_41 : decode cX6_set 41 = .ok (.bipush (-2), 2) := by decide +kernel
theorem dX6_set_43 : decode cX6_set 43 = .ok (.ireturn, 1) := by decide +kernel
theorem dX6_set_44 : decode cX6_set 44 = .ok (.aload_n 0, 1) := by decide +kernel
theorem dX6_set_45 : decode cX6_set 45 = .ok (.getfield 7, 3) := by decide +kernel
theorem dX6_set_48 : decode cX6_set 48 = .ok (.sipush 479, 3) := by decide +kernel
theorem dX6_set_51 : decode cX6_set 51 = .ok (.iload_n 1, 1) := by decide +kernel
theorem dX6_set_52 : decode cX6_set 52 = .ok (.iadd, 1) := by decide +kernel
theorem dX6_set_53 : decode cX6_set 53 = .ok (.iaload, 1) := by decide +kernel
theorem dX6_set_54 : decode cX6_set 54 = .ok (.iload_n 2, 1) := by decide +kernel
theorem dX6_set_55 : decode cX6_set 55 = .ok (.if_icmp .ne 6, 3) := by decide +kernel
theorem dX6_set_58 : decode cX6_set 58 = .ok (.bipush (-5), 2) := by decide +kernel
theorem dX6_set_60 : decode cX6_set 60 = .ok (.ireturn, 1) := by decide +kernel
theorem dX6_set_61 : decode cX6_set 61 = .ok (.aload_n 0, 1) := by decide +kernel
theorem dX6_set_62 : decode cX6_set 62 = .ok (.invokevirtual 46, 3) := by decide +kernel
theorem dX6_set_65 : decode cX6_set 65 = .ok (.aload_n 0, 1) := by decide +kernel
theorem dX6_set_66 : decode cX6_set 66 = .ok (.getfield 7, 3) := by decide +kernel
theorem dX6_set_69 : decode cX6_set 69 = .ok (.sipush 479, 3) := by decide +kernel
theorem dX6_set_72 : decode cX6_set 72 = .ok (.iload_n 1, 1) := by decide +kernel
theorem dX6_set_73 : decode cX6_set 73 = .ok (.iadd, 1) := by decide +kernel
theorem dX6_set_74 : decode cX6_set 74 = .ok (.iaload, 1) := by decide +kernel
theorem dX6_set_75 : decode cX6_set 75 = .ok (.istore_n 3, 1) := by decide +kernel
theorem dX6_set_76 : decode cX6_set 76 = .ok (.aload_n 0, 1) := by decide +kernel
theorem dX6_set_77 : decode cX6_set 77 = .ok (.getfield 7, 3) := by decide +kernel
theorem dX6_set_80 : decode cX6_set 80 = .ok (.sipush 479, 3) := by decide +kernel
theorem dX6_set_83 : decode cX6_set 83 = .ok (.iload_n 1, 1) := by decide +kernel
theorem dX6_set_84 : decode cX6_set 84 = .ok (.iadd, 1) := by decide +kernel
theorem dX6_set_85 : decode cX6_set 85 = .ok (.iload_n 2, 1) := by decide +kernel
theorem dX6_set_86 : decode cX6_set 86 = .ok (.iastore, 1) := by decide +kernel
theorem dX6_set_87 : decode cX6_set 87 = .ok (.iload_n 3, 1) := by decide +kernel
theorem dX6_set_88 : decode cX6_set 88 = .ok (.ireturn, 1) := by decide +kernel
theorem dX6_tells_0 : decode cX6_tells 0 = .ok (.iload_n 2, 1) := by decide +kernel
theorem dX6_tells_1 : decode cX6_tells 1 = .ok (.aload_n 0, 1) := by decide +kernel
theorem dX6_tells_2 : decode cX6_tells 2 = .ok (.getfield 7, 3) := by decide +kernel
theorem dX6_tells_5 : decode cX6_tells 5 = .ok (.sipush 477, 3) := by decide +kernel
theorem dX6_tells_8 : decode cX6_tells 8 = .ok (.iload_n 1, 1) := by decide +kernel
theorem dX6_tells_9 : decode cX6_tells 9 = .ok (.iadd, 1) := by decide +kernel
theorem dX6_tells_10 : decode cX6_tells 10 = .ok (.iaload, 1) := by decide +kernel
theorem dX6_tells_11 : decode cX6_tells 11 = .ok (.iadd, 1) := by decide +kernel
theorem dX6_tells_12 : decode cX6_tells 12 = .ok (.istore_n 3, 1) := by decide +kernel
theorem dX6_tells_13 : decode cX6_tells 13 = .ok (.iload_n 3, 1) := by decide +kernel
theorem dX6_tells_14 : decode cX6_tells 14 = .ok (.ifCond .ge 7, 3) := by decide +kernel
theorem dX6_tells_17 : decode cX6_tells 17 = .ok (.iconst 0, 1) := by decide +kernel
theorem dX6_tells_18 : decode cX6_tells 18 = .ok (.goto 4, 3) := by decide +kernel
theorem dX6_tells_21 : decode cX6_tells 21 = .ok (.iload_n 3, 1) := by decide +kernel
theorem dX6_tells_22 : decode cX6_tells 22 = .ok (.ireturn, 1) := by decide +kernel
set_option maxRecDepth 20000 in
theorem ggX6_drifts_X6_size : GoodIn wsX6_drifts wsX6_size := goodIn_r _ [5] (by decide +kernel) (by decide +kernel)
set_option maxRecDepth 20000 in
theorem gX6_drifts_X6_size : GoodIn wsX6_drifts (va_wsS RX6 73 yX6_size wsX6_size) := goodIn_app (goodIn_of _ (by decide +kernel)) ggX6_drifts_X6_size
theorem dX6_drifts_0 : decode cX6_drifts 0 = .ok (.aload_n 0, 1) := by decide +kernel
theorem dX6_drifts_1 : decode cX6_drifts 1 = .ok (.getfield 7, 3) := by decide +kernel
theorem dX6_drifts_4 : decode cX6_drifts 4 = .ok (.sipush 477, 3) := by decide +kernel
theorem dX6_drifts_7 : decode cX6_drifts 7 = .ok (.iload_n 1, 1) := by decide +kernel
theorem dX6_drifts_8 : decode cX6_drifts 8 = .ok (.iadd, 1) := by decide +kernel
theorem dX6_drifts_9 : decode cX6_drifts 9 = .ok (.iaload, 1) := by decide +kernel
theorem dX6_drifts_10 : decode cX6_drifts 10 = .ok (.iload_n 1, 1) := by decide +kernel
theorem dX6_drifts_11 : decode cX6_drifts 11 = .ok (.ifCond .ne 7, 3) := by decide +kernel
theorem dX6_drifts_14 : decode cX6_drifts 14 = .ok (.iconst 1, 1) := by decide +kernel
theorem dX6_drifts_15 : decode cX6_drifts 15 = .ok (.goto 4, 3) := by decide +kernel
theorem dX6_drifts_18 : decode cX6_drifts 18 = .ok (.iconst (-1), 1) := by decide +kernel
theorem dX6_drifts_19 : decode cX6_drifts 19 = .ok (.iadd, 1) := by decide +kernel
theorem dX6_drifts_20 : decode cX6_drifts 20 = .ok (.istore_n 2, 1) := by decide +kernel
theorem dX6_drifts_21 : decode cX6_drifts 21 = .ok (.aload_n 0, 1) := by decide +kernel
theorem dX6_drifts_22 : decode cX6_drifts 22 = .ok (.getfield 7, 3) := by decide +kernel
theorem dX6_drifts_25 : decode cX6_drifts 25 = .ok (.sipush 480, 3) := by decide +kernel
theorem dX6_drifts_28 : decode cX6_drifts 28 = .ok (.iaload, 1) := by decide +kernel
theorem dX6_drifts_29 : decode cX6_drifts 29 = .ok (.istore_n 3, 1) := by decide +kernel
theorem dX6_drifts_30 : decode cX6_drifts 30 = .ok (.aload_n 0, 1) := by decide +kernel
theorem dX6_drifts_31 : decode cX6_drifts 31 = .ok (.getfield 7, 3) := by decide +kernel
theorem dX6_drifts_34 : decode cX6_drifts 34 = .ok (.sipush 477, 3) := by decide +kernel
theorem dX6_drifts_37 : decode cX6_drifts 37 = .ok (.iload_n 1, 1) := by decide +kernel
theorem dX6_drifts_38 : decode cX6_drifts 38 = .ok (.iadd, 1) := by decide +kernel
theorem dX6_drifts_39 : decode cX6_drifts 39 = .ok (.iload_n 2, 1) := by decide +kernel
theorem dX6_drifts_40 : decode cX6_drifts 40 = .ok (.invokestatic 73, 3) := by decide +kernel
theorem dX6_drifts_43 : decode cX6_drifts 43 = .ok (.iload_n 3, 1) := by decide +kernel
theorem dX6_drifts_44 : decode cX6_drifts 44 = .ok (.if_icmp .gt 7, 3) := by decide +kernel
theorem dX6_drifts_47 : decode cX6_drifts 47 = .ok (.iload_n 2, 1) := by decide +kernel
theorem dX6_drifts_48 : decode cX6_drifts 48 = .ok (.goto 13, 3) := by decide +kernel
theorem dX6_drifts_51 : decode cX6_drifts 51 = .ok (.iload_n 2, 1) := by decide +kernel
theorem dX6_drifts_52 : decode cX6_drifts 52 = .ok (.ifCond .le 8, 3) := by decide +kernel
theorem dX6_drifts_55 : decode cX6_drifts 55 = .ok (.iload_n 3, 1) := by decide +kernel
theorem dX6_drifts_56 : decode cX6_drifts 56 = .ok (.ineg, 1) := by decide +kernel
theorem dX6_drifts_57 : decode cX6_drifts 57 = .ok (.goto 4, 3) := by decide +kernel
theorem dX6_drifts_60 : decode cX6_drifts 60 = .ok (.iload_n 3, 1) := by decide +kernel
theorem dX6_drifts_61 : decode cX6_drifts 61 = .ok (.iastore, 1) := by decide +kernel
theorem dX6_drifts_62 : decode cX6_drifts 62 = .ok (.return_, 1) := by decide +kernel
set_option maxRecDepth 20000 in
theorem ggX6_payment_X6_ofA : GoodIn wsX6_payment wsX6_ofA := goodIn_r _ [5] (by decide +kernel) (by decide +kernel)
set_option maxRecDepth 20000 in
theorem gX6_payment_X6_ofA : GoodIn wsX6_payment (va_wsS RX6 52 yX6_ofA wsX6_ofA) := goodIn_app (goodIn_of _ (by decide +kernel)) ggX6_payment_X6_ofA
set_option maxRecDepth 20000 in
theorem ggX6_payment_X6_ofR : GoodIn wsX6_payment wsX6_ofR := goodIn_r _ [8] (by decide +kernel) (by decide +kernel)
set_option maxRecDepth 20000 in
theorem gX6_payment_X6_ofR : GoodIn wsX6_payment (va_wsS RX6 38 yX6_ofR wsX6_ofR) := goodIn_app (goodIn_of _ (by decide +kernel)) ggX6_payment_X6_ofR
theorem dX6_payment_0 : decode cX6_payment 0 = .ok (.aload_n 0, 1) := by decide +kernel
theorem dX6_payment_1 : decode cX6_payment 1 = .ok (.getfield 7, 3) := by decide +kernel
theorem dX6_payment_4 : decode cX6_payment 4 = .ok (.aload_n 0, 1) := by decide +kernel
theorem dX6_payment_5 : decode cX6_payment 5 = .ok (.getfield 7, 3) := by decide +kernel
theorem dX6_payment_8 : decode cX6_payment 8 = .ok (.iload_n 1, 1) := by decide +kernel
theorem dX6_payment_9 : decode cX6_payment 9 = .ok (.iconst 1, 1) := by decide +kernel
theorem dX6_payment_10 : decode cX6_payment 10 = .ok (.invokestatic 52, 3) := by decide +kernel
theorem dX6_payment_13 : decode cX6_payment 13 = .ok (.iaload, 1) := by decide +kernel
theorem dX6_payment_14 : decode cX6_payment 14 = .ok (.iconst 1, 1) := by decide +kernel
theorem dX6_payment_15 : decode cX6_payment 15 = .ok (.invokestatic 38, 3) := by decide +kernel
theorem dX6_payment_18 : decode cX6_payment 18 = .ok (.iaload, 1) := by decide +kernel
theorem dX6_payment_19 : decode cX6_payment 19 = .ok (.iload_n 2, 1) := by decide +kernel
theorem dX6_payment_20 : decode cX6_payment 20 = .ok (.iload_n 3, 1) := by decide +kernel
theorem dX6_payment_21 : decode cX6_payment 21 = .ok (.iadd, 1) := by decide +kernel
theorem dX6_payment_22 : decode cX6_payment 22 = .ok (.bipush 10, 2) := by decide +kernel
theorem dX6_payment_24 : decode cX6_payment 24 = .ok (.idiv, 1) := by decide +kernel
theorem dX6_payment_25 : decode cX6_payment 25 = .ok (.iadd, 1) := by decide +kernel
theorem dX6_payment_26 : decode cX6_payment 26 = .ok (.ireturn, 1) := by decide +kernel
set_option maxRecDepth 20000 in
theorem ggX6_canPay_X6_ofA : GoodIn wsX6_canPay wsX6_ofA := goodIn_r _ [5] (by decide +kernel) (by decide +kernel)
set_option maxRecDepth 20000 in
theorem gX6_canPay_X6_ofA : GoodIn wsX6_canPay (va_wsS RX6 52 yX6_ofA wsX6_ofA) := goodIn_app (goodIn_of _ (by decide +kernel)) ggX6_canPay_X6_ofA
set_option maxRecDepth 20000 in
theorem ggX6_canPay_X6_ofR : GoodIn wsX6_canPay wsX6_ofR := goodIn_r _ [8] (by decide +kernel) (by decide +kernel)
set_option maxRecDepth 20000 in
theorem gX6_canPay_X6_ofR : GoodIn wsX6_canPay (va_wsS RX6 38 yX6_ofR wsX6_ofR) := goodIn_app (goodIn_of _ (by decide +kernel)) ggX6_canPay_X6_ofR
theorem dX6_canPay_0 : decode cX6_canPay 0 = .ok (.aload_n 0, 1) := by decide +kernel
theorem dX6_canPay_1 : decode cX6_canPay 1 = .ok (.getfield 7, 3) := by decide +kernel
theorem dX6_canPay_4 : decode cX6_canPay 4 = .ok (.aload_n 0, 1) := by decide +kernel
theorem dX6_canPay_5 : decode cX6_canPay 5 = .ok (.getfield 7, 3) := by decide +kernel
theorem dX6_canPay_8 : decode cX6_canPay 8 = .ok (.iload_n 1, 1) := by decide +kernel
theorem dX6_canPay_9 : decode cX6_canPay 9 = .ok (.iconst 1, 1) := by decide +kernel
theorem dX6_canPay_10 : decode cX6_canPay 10 = .ok (.invokestatic 52, 3) := by decide +kernel
theorem dX6_canPay_13 : decode cX6_canPay 13 = .ok (.iaload, 1) := by decide +kernel
theorem dX6_canPay_14 : decode cX6_canPay 14 = .ok (.iconst 0, 1) := by decide +kernel
theorem dX6_canPay_15 : decode cX6_canPay 15 = .ok (.invokestatic 38, 3) := by decide +kernel
theorem dX6_canPay_18 : decode cX6_canPay 18 = .ok (.iaload, 1) := by decide +kernel
theorem dX6_canPay_19 : decode cX6_canPay 19 = .ok (.istore_n 3, 1) := by decide +kernel
theorem dX6_canPay_20 : decode cX6_canPay 20 = .ok (.aload_n 0, 1) := by decide +kernel
theorem dX6_canPay_21 : decode cX6_canPay 21 = .ok (.getfield 7, 3) := by decide +kernel
theorem dX6_canPay_24 : decode cX6_canPay 24 = .ok (.iconst 0, 1) := by decide +kernel
theorem dX6_canPay_25 : decode cX6_canPay 25 = .ok (.iload_n 3, 1) := by decide +kernel
theorem dX6_canPay_26 : decode cX6_canPay 26 = .ok (.iadd, 1) := by decide +kernel
theorem dX6_canPay_27 : decode cX6_canPay 27 = .ok (.iaload, 1) := by decide +kernel
theorem dX6_canPay_28 : decode cX6_canPay 28 = .ok (.iload_n 2, 1) := by decide +kernel
theorem dX6_canPay_29 : decode cX6_canPay 29 = .ok (.isub, 1) := by decide +kernel
theorem dX6_canPay_30 : decode cX6_canPay 30 = .ok (.aload_n 0, 1) := by decide +kernel
theorem dX6_canPay_31 : decode cX6_canPay 31 = .ok (.getfield 7, 3) := by decide +kernel
theorem dX6_canPay_34 : decode cX6_canPay 34 = .ok (.sipush 482, 3) := by decide +kernel
theorem dX6_canPay_37 : decode cX6_canPay 37 = .ok (.iaload, 1) := by decide +kernel
theorem dX6_canPay_38 : decode cX6_canPay 38 = .ok (.ineg, 1) := by decide +kernel
theorem dX6_canPay_39 : decode cX6_canPay 39 = .ok (.if_icmp .lt 7, 3) := by decide +kernel
theorem dX6_canPay_42 : decode cX6_canPay 42 = .ok (.iconst 1, 1) := by decide +kernel
theorem dX6_canPay_43 : decode cX6_canPay 43 = .ok (.goto 4, 3) := by decide +kernel
theorem dX6_canPay_46 : decode cX6_canPay 46 = .ok (.iconst 0, 1) := by decide +kernel
theorem dX6_canPay_47 : decode cX6_canPay 47 = .ok (.ireturn, 1) := by decide +kernel
set_option maxRecDepth 20000 in
theorem ggX6_refuses_X6_ofA : GoodIn wsX6_refuses wsX6_ofA := goodIn_r _ [5] (by decide +kernel) (by decide +kernel)
set_option maxRecDepth 20000 in
theorem gX6_refuses_X6_ofA : GoodIn wsX6_refuses (va_wsS RX6 52 yX6_ofA wsX6_ofA) := goodIn_app (goodIn_of _ (by decide +kernel)) ggX6_refuses_X6_ofA
theorem dX6_refuses_0 : decode cX6_refuses 0 = .ok (.aload_n 0, 1) := by decide +kernel
theorem dX6_refuses_1 : decode cX6_refuses 1 = .ok (.getfield 7, 3) := by decide +kernel
theorem dX6_refuses_4 : decode cX6_refuses 4 = .ok (.iload_n 1, 1) := by decide +kernel
theorem dX6_refuses_5 : decode cX6_refuses 5 = .ok (.iconst 4, 1) := by decide +kernel
theorem dX6_refuses_6 : decode cX6_refuses 6 = .ok (.invokestatic 52, 3) := by decide +kernel
theorem dX6_refuses_9 : decode cX6_refuses 9 = .ok (.iconst 2, 1) := by decide +kernel
theorem dX6_refuses_10 : decode cX6_refuses 10 = .ok (.iastore, 1) := by decide +kernel
theorem dX6_refuses_11 : decode cX6_refuses 11 = .ok (.aload_n 0, 1) := by decide +kernel
theorem dX6_refuses_12 : decode cX6_refuses 12 = .ok (.getfield 7, 3) := by decide +kernel
theorem dX6_refuses_15 : decode cX6_refuses 15 = .ok (.iload_n 1, 1) := by decide +kernel
theorem dX6_refuses_16 : decode cX6_refuses 16 = .ok (.iconst 5, 1) := by decide +kernel
theorem dX6_refuses_17 : decode cX6_refuses 17 = .ok (.invokestatic 52, 3) := by decide +kernel
theorem dX6_refuses_20 : decode cX6_refuses 20 = .ok (.iload_n 2, 1) := by decide +kernel
theorem dX6_refuses_21 : decode cX6_refuses 21 = .ok (.iastore, 1) := by decide +kernel
theorem dX6_refuses_22 : decode cX6_refuses 22 = .ok (.return_, 1) := by decide +kernel
set_option maxRecDepth 20000 in
theorem ggX6_takes_X6_ofA : GoodIn wsX6_takes wsX6_ofA := goodIn_r _ [5] (by decide +kernel) (by decide +kernel)
set_option maxRecDepth 20000 in
theorem gX6_takes_X6_ofA : GoodIn wsX6_takes (va_wsS RX6 52 yX6_ofA wsX6_ofA) := goodIn_app (goodIn_of _ (by decide +kernel)) ggX6_takes_X6_ofA
set_option maxRecDepth 20000 in
theorem ggX6_takes_X6_ofR : GoodIn wsX6_takes wsX6_ofR := goodIn_r _ [8] (by decide +kernel) (by decide +kernel)
set_option maxRecDepth 20000 in
theorem gX6_takes_X6_ofR : GoodIn wsX6_takes (va_wsS RX6 38 yX6_ofR wsX6_ofR) := goodIn_app (goodIn_of _ (by decide +kernel)) ggX6_takes_X6_ofR
set_option maxRecDepth 20000 in
theorem ggX6_takes_X6_refuses : GoodIn wsX6_takes wsX6_refuses := goodIn_r _ [12, 1, 2, 3, 4, 5, 36, 37, 38, 39, 40, 41, 42, 43, 44, 45, 46, 47, 48, 49, 50, 51, 52, 53] (by decide +kernel) (by decide +kernel)
set_option maxRecDepth 20000 in
theorem gX6_takes_X6_refuses : GoodIn wsX6_takes (wsV RX6 76 RX6 yX6_refuses wsX6_refuses) := goodIn_app (goodIn_of _ (by decide +kernel)) ggX6_takes_X6_refuses
set_option maxRecDepth 20000 in
theorem ggX6_takes_X6_tells : GoodIn wsX6_takes wsX6_tells := goodIn_r _ [16, 1, 36, 37, 38, 39, 40, 41, 42, 43, 44, 45, 46, 47, 48, 49, 50, 51, 52, 53] (by decide +kernel) (by decide +kernel)
set_option maxRecDepth 20000 in
theorem gX6_takes_X6_tells : GoodIn wsX6_takes (wsV RX6 80 RX6 yX6_tells wsX6_tells) := goodIn_app (goodIn_of _ (by decide +kernel)) ggX6_takes_X6_tells
set_option maxRecDepth 20000 in
theorem ggX6_takes_X6_drifts : GoodIn wsX6_takes wsX6_drifts := goodIn_r _ [20, 1, 21, 22, 4, 23, 36, 37, 38, 39, 40, 41, 42, 43, 44, 45, 46, 47, 48, 49, 50, 51, 52, 53] (by decide +kernel) (by decide +kernel)
set_option maxRecDepth 20000 in
theorem gX6_takes_X6_drifts : GoodIn wsX6_takes (wsV RX6 83 RX6 yX6_drifts wsX6_drifts) := goodIn_app (goodIn_of _ (by decide +kernel)) ggX6_takes_X6_drifts
set_option maxRecDepth 20000 in
theorem ggX6_takes_X6_size : GoodIn wsX6_takes wsX6_size := goodIn_r _ [23] (by decide +kernel) (by decide +kernel)
set_option maxRecDepth 20000 in
theorem gX6_takes_X6_size : GoodIn wsX6_takes (va_wsS RX6 73 yX6_size wsX6_size) := goodIn_app (goodIn_of _ (by decide +kernel)) ggX6_takes_X6_size
set_option maxRecDepth 20000 in
theorem ggX6_takes_X6_queues : GoodIn wsX6_takes wsX6_queues := goodIn_r _ [27, 1, 36, 37, 38, 39, 40, 41, 42, 43, 44, 45, 46, 47, 48, 49, 50, 51, 52, 53] (by decide +kernel) (by decide +kernel)
set_option maxRecDepth 20000 in
theorem gX6_takes_X6_queues : GoodIn wsX6_takes (wsV RX6 62 RX6 yX6_queues wsX6_queues) := goodIn_app (goodIn_of _ (by decide +kernel)) ggX6_takes_X6_queues
set_option maxRecDepth 20000 in
theorem ggX6_takes_X6_payment : GoodIn wsX6_takes wsX6_payment := goodIn_r _ [31, 1, 2, 3, 4, 5, 6, 7, 8, 36, 37, 38, 39, 40, 41, 42, 43, 44, 45, 46, 47, 48, 49, 50, 51, 52, 53] (by decide +kernel) (by decide +kernel)
set_option maxRecDepth 20000 in
theorem gX6_takes_X6_payment : GoodIn wsX6_takes (wsV RX6 86 RX6 yX6_payment wsX6_payment) := goodIn_app (goodIn_of _ (by decide +kernel)) ggX6_takes_X6_payment
set_option maxRecDepth 20000 in
theorem ggX6_takes_X6_canPay : GoodIn wsX6_takes wsX6_canPay := goodIn_r _ [35, 1, 2, 3, 4, 5, 6, 7, 8, 36, 37, 38, 39, 40, 41, 42, 43, 44, 45, 46, 47, 48, 49, 50, 51, 52, 53] (by decide +kernel) (by decide +kernel)
set_option maxRecDepth 20000 in
theorem gX6_takes_X6_canPay : GoodIn wsX6_takes (wsV RX6 89 RX6 yX6_canPay wsX6_canPay) := goodIn_app (goodIn_of _ (by decide +kernel)) ggX6_takes_X6_canPay
theorem dX6_takes_0 : decode cX6_takes 0 = .ok (.aload_n 0, 1) := by decide +kernel
theorem dX6_takes_1 : decode cX6_takes 1 = .ok (.getfield 7, 3) := by decide +kernel
theorem dX6_takes_4 : decode cX6_takes 4 = .ok (.iload_n 1, 1) := by decide +kernel
theorem dX6_takes_5 : decode cX6_takes 5 = .ok (.iconst 1, 1) := by decide +kernel
theorem dX6_takes_6 : decode cX6_takes 6 = .ok (.invokestatic 52, 3) := by decide +kernel
theorem dX6_takes_9 : decode cX6_takes 9 = .ok (.iaload, 1) := by decide +kernel
theorem dX6_takes_10 : decode cX6_takes 10 = .ok (.istore_n 2, 1) := by decide +kernel
theorem dX6_takes_11 : decode cX6_takes 11 = .ok (.aload_n 0, 1) := by decide +kernel
theorem dX6_takes_12 : decode cX6_takes 12 = .ok (.getfield 7, 3) := by decide +kernel
theorem dX6_takes_15 : decode cX6_takes 15 = .ok (.iload_n 2, 1) := by decide +kernel
theorem dX6_takes_16 : decode cX6_takes 16 = .ok (.iconst 3, 1) := by decide +kernel
theorem dX6_takes_17 : decode cX6_takes 17 = .ok (.invokestatic 38, 3) := by decide +kernel
theorem dX6_takes_20 : decode cX6_takes 20 = .ok (.iaload, 1) := by decide +kernel
theorem dX6_takes_21 : decode cX6_takes 21 = .ok (.ifCond .eq 10, 3) := by decide +kernel
theorem dX6_takes_24 : decode cX6_takes 24 = .ok (.aload_n 0, 1) := by decide +kernel
theorem dX6_takes_25 : decode cX6_takes 25 = .ok (.iload_n 1, 1) := by decide +kernel
theorem dX6_takes_26 : decode cX6_takes 26 = .ok (.iconst 1, 1) := by decide +kernel
theorem dX6_takes_27 : decode cX6_takes 27 = .ok (.invokevirtual 76, 3) := by decide +kernel
theorem dX6_takes_30 : decode cX6_takes 30 = .ok (.return_, 1) := by decide +kernel
theorem dX6_takes_31 : decode cX6_takes 31 = .ok (.aload_n 0, 1) := by decide +kernel
theorem dX6_takes_32 : decode cX6_takes 32 = .ok (.getfield 7, 3) := by decide +kernel
theorem dX6_takes_35 : decode cX6_takes 35 = .ok (.iload_n 2, 1) := by decide +kernel
theorem dX6_takes_36 : decode cX6_takes 36 = .ok (.iconst 2, 1) := by decide +kernel
theorem dX6_takes_37 : decode cX6_takes 37 = .ok (.invokestatic 38, 3) := by decide +kernel
theorem dX6_takes_40 : decode cX6_takes 40 = .ok (.iaload, 1) := by decide +kernel
theorem dX6_takes_41 : decode cX6_takes 41 = .ok (.aload_n 0, 1) := by decide +kernel
theorem dX6_takes_42 : decode cX6_takes 42 = .ok (.getfield 7, 3) := by decide +kernel
theorem dX6_takes_45 : decode cX6_takes 45 = .ok (.iload_n 1, 1) := by decide +kernel
theorem dX6_takes_46 : decode cX6_takes 46 = .ok (.iconst 2, 1) := by decide +kernel
theorem dX6_takes_47 : decode cX6_takes 47 = .ok (.invokestatic 52, 3) := by decide +kernel
theorem dX6_takes_50 : decode cX6_takes 50 = .ok (.iaload, 1) := by decide +kernel
theorem dX6_takes_51 : decode cX6_takes 51 = .ok (.if_icmp .eq 10, 3) := by decide +kernel
theorem dX6_takes_54 : decode cX6_takes 54 = .ok (.aload_n 0, 1) := by decide +kernel
theorem dX6_takes_55 : decode cX6_takes 55 = .ok (.iload_n 1, 1) := by decide +kernel
theorem dX6_takes_56 : decode cX6_takes 56 = .ok (.iconst 2, 1) := by decide +kernel
theorem dX6_takes_57 : decode cX6_takes 57 = .ok (.invokevirtual 76, 3) := by decide +kernel
theorem dX6_takes_60 : decode cX6_takes 60 = .ok (.return_, 1) := by decide +kernel
theorem dX6_takes_61 : decode cX6_takes 61 = .ok (.aload_n 0, 1) := by decide +kernel
theorem dX6_takes_62 : decode cX6_takes 62 = .ok (.iconst 0, 1) := by decide +kernel
theorem dX6_takes_63 : decode cX6_takes 63 = .ok (.aload_n 0, 1) := by decide +kernel
theorem dX6_takes_64 : decode cX6_takes 64 = .ok (.getfield 7, 3) := by decide +kernel
theorem dX6_takes_67 : decode cX6_takes 67 = .ok (.iload_n 1, 1) := by decide +kernel
theorem dX6_takes_68 : decode cX6_takes 68 = .ok (.iconst 3, 1) := by decide +kernel
theorem dX6_takes_69 : decode cX6_takes 69 = .ok (.invokestatic 52, 3) := by decide +kernel
theorem dX6_takes_72 : decode cX6_takes 72 = .ok (.iaload, 1) := by decide +kernel
theorem dX6_takes_73 : decode cX6_takes 73 = .ok (.invokevirtual 80, 3) := by decide +kernel
theorem dX6_takes_76 : decode cX6_takes 76 = .ok (.istore_n 3, 1) := by decide +kernel
theorem dX6_takes_77 : decode cX6_takes 77 = .ok (.aload_n 0, 1) := by decide +kernel
theorem dX6_takes_78 : decode cX6_takes 78 = .ok (.iconst 0, 1) := by decide +kernel
theorem dX6_takes_79 : decode cX6_takes 79 = .ok (.invokevirtual 83, 3) := by decide +kernel
theorem dX6_takes_82 : decode cX6_takes 82 = .ok (.aload_n 0, 1) := by decide +kernel
theorem dX6_takes_83 : decode cX6_takes 83 = .ok (.iconst 1, 1) := by decide +kernel
theorem dX6_takes_84 : decode cX6_takes 84 = .ok (.aload_n 0, 1) := by decide +kernel
theorem dX6_takes_85 : decode cX6_takes 85 = .ok (.getfield 7, 3) := by decide +kernel
theorem dX6_takes_88 : decode cX6_takes 88 = .ok (.iload_n 1, 1) := by decide +kernel
theorem dX6_takes_89 : decode cX6_takes 89 = .ok (.iconst 3, 1) := by decide +kernel
theorem dX6_takes_90 : decode cX6_takes 90 = .ok (.invokestatic 52, 3) := by decide +kernel
theorem dX6_takes_93 : decode cX6_takes 93 = .ok (.iaload, 1) := by decide +kernel
theorem dX6_takes_94 : decode cX6_takes 94 = .ok (.invokevirtual 80, 3) := by decide +kernel
theorem dX6_takes_97 : decode cX6_takes 97 = .ok (.istore 4, 2) := by decide +kernel
theorem dX6_takes_99 : decode cX6_takes 99 = .ok (.aload_n 0, 1) := by decide +kernel
theorem dX6_takes_100 : decode cX6_takes 100 = .ok (.iconst 1, 1) := by decide +kernel
theorem dX6_takes_101 : decode cX6_takes 101 = .ok (.invokevirtual 83, 3) := by decide +kernel
theorem dX6_takes_104 : decode cX6_takes 104 = .ok (.aload_n 0, 1) := by decide +kernel
theorem dX6_takes_105 : decode cX6_takes 105 = .ok (.getfield 7, 3) := by decide +kernel
theorem dX6_takes_108 : decode cX6_takes 108 = .ok (.sipush 488, 3) := by decide +kernel
theorem dX6_takes_111 : decode cX6_takes 111 = .ok (.dup2, 1) := by decide +kernel
theorem dX6_takes_112 : decode cX6_takes 112 = .ok (.iaload, 1) := by decide +kernel
theorem dX6_takes_113 : decode cX6_takes 113 = .ok (.iconst 2, 1) := by decide +kernel
theorem dX6_takes_114 : decode cX6_takes 114 = .ok (.iadd, 1) := by decide +kernel
theorem dX6_takes_115 : decode cX6_takes 115 = .ok (.iastore, 1) := by decide +kernel
theorem dX6_takes_116 : decode cX6_takes 116 = .ok (.iload_n 3, 1) := by decide +kernel
theorem dX6_takes_117 : decode cX6_takes 117 = .ok (.iload 4, 2) := by decide +kernel
theorem dX6_takes_119 : decode cX6_takes 119 = .ok (.isub, 1) := by decide +kernel
theorem dX6_takes_120 : decode cX6_takes 120 = .ok (.invokestatic 73, 3) := by decide +kernel
theorem dX6_takes_123 : decode cX6_takes 123 = .ok (.aload_n 0, 1) := by decide +kernel
theorem dX6_takes_124 : decode cX6_takes 124 = .ok (.getfield 7, 3) := by decide +kernel
theorem dX6_takes_127 : decode cX6_takes 127 = .ok (.sipush 479, 3) := by decide +kernel
theorem dX6_takes_130 : decode cX6_takes 130 = .ok (.iaload, 1) := by decide +kernel
theorem dX6_takes_131 : decode cX6_takes 131 = .ok (.if_icmp .le 60, 3) := by decide +kernel
theorem dX6_takes_134 : decode cX6_takes 134 = .ok (.aload_n 0, 1) := by decide +kernel
theorem dX6_takes_135 : decode cX6_takes 135 = .ok (.getfield 7, 3) := by decide +kernel
theorem dX6_takes_138 : decode cX6_takes 138 = .ok (.iload_n 1, 1) := by decide +kernel
theorem dX6_takes_139 : decode cX6_takes 139 = .ok (.bipush 6, 2) := by decide +kernel
theorem dX6_takes_141 : decode cX6_takes 141 = .ok (.invokestatic 52, 3) := by decide +kernel
theorem dX6_takes_144 : decode cX6_takes 144 = .ok (.dup2, 1) := by decide +kernel
theorem dX6_takes_145 : decode cX6_takes 145 = .ok (.iaload, 1) := by decide +kernel
theorem dX6_takes_146 : decode cX6_takes 146 = .ok (.iconst 1, 1) := by decide +kernel
theorem dX6_takes_147 : decode cX6_takes 147 = .ok (.iadd, 1) := by decide +kernel
theorem dX6_takes_148 : decode cX6_takes 148 = .ok (.iastore, 1) := by decide +kernel
theorem dX6_takes_149 : decode cX6_takes 149 = .ok (.aload_n 0, 1) := by decide +kernel
theorem dX6_takes_150 : decode cX6_takes 150 = .ok (.getfield 7, 3) := by decide +kernel
theorem dX6_takes_153 : decode cX6_takes 153 = .ok (.sipush 487, 3) := by decide +kernel
theorem dX6_takes_156 : decode cX6_takes 156 = .ok (.dup2, 1) := by decide +kernel
theorem dX6_takes_157 : decode cX6_takes 157 = .ok (.iaload, 1) := by decide +kernel
theorem dX6_takes_158 : decode cX6_takes 158 = .ok (.iconst 1, 1) := by decide +kernel
theorem dX6_takes_159 : decode cX6_takes 159 = .ok (.iadd, 1) := by decide +kernel
theorem dX6_takes_160 : decode cX6_takes 160 = .ok (.iastore, 1) := by decide +kernel
theorem dX6_takes_161 : decode cX6_takes 161 = .ok (.aload_n 0, 1) := by decide +kernel
theorem dX6_takes_162 : decode cX6_takes 162 = .ok (.getfield 7, 3) := by decide +kernel
theorem dX6_takes_165 : decode cX6_takes 165 = .ok (.iload_n 1, 1) := by decide +kernel
theorem dX6_takes_166 : decode cX6_takes 166 = .ok (.bipush 6, 2) := by decide +kernel
theorem dX6_takes_168 : decode cX6_takes 168 = .ok (.invokestatic 52, 3) := by decide +kernel
theorem dX6_takes_171 : decode cX6_takes 171 = .ok (.iaload, 1) := by decide +kernel
theorem dX6_takes_172 : decode cX6_takes 172 = .ok (.iconst 3, 1) := by decide +kernel
theorem dX6_takes_173 : decode cX6_takes 173 = .ok (.if_icmp .ne 12, 3) := by decide +kernel
theorem dX6_takes_176 : decode cX6_takes 176 = .ok (.aload_n 0, 1) := by decide +kernel
theorem dX6_takes_177 : decode cX6_takes 177 = .ok (.iload_n 1, 1) := by decide +kernel
theorem dX6_takes_178 : decode cX6_takes 178 = .ok (.iconst 3, 1) := by decide +kernel
theorem dX6_takes_179 : decode cX6_takes 179 = .ok (.invokevirtual 76, 3) := by decide +kernel
theorem dX6_takes_182 : decode cX6_takes 182 = .ok (.goto 8, 3) := by decide +kernel
theorem dX6_takes_185 : decode cX6_takes 185 = .ok (.aload_n 0, 1) := by decide +kernel
theorem dX6_takes_186 : decode cX6_takes 186 = .ok (.iload_n 1, 1) := by decide +kernel
theorem dX6_takes_187 : decode cX6_takes 187 = .ok (.invokevirtual 62, 3) := by decide +kernel
theorem dX6_takes_190 : decode cX6_takes 190 = .ok (.return_, 1) := by decide +kernel
theorem dX6_takes_191 : decode cX6_takes 191 = .ok (.aload_n 0, 1) := by decide +kernel
theorem dX6_takes_192 : decode cX6_takes 192 = .ok (.iload_n 1, 1) := by decide +kernel
theorem dX6_takes_193 : decode cX6_takes 193 = .ok (.iload_n 3, 1) := by decide +kernel
theorem dX6_takes_194 : decode cX6_takes 194 = .ok (.iload 4, 2) := by decide +kernel
theorem dX6_takes_196 : decode cX6_takes 196 = .ok (.invokevirtual 86, 3) := by decide +kernel
theorem dX6_takes_199 : decode cX6_takes 199 = .ok (.istore 5, 2) := by decide +kernel
theorem dX6_takes_201 : decode cX6_takes 201 = .ok (.aload_n 0, 1) := by decide +kernel
theorem dX6_takes_202 : decode cX6_takes 202 = .ok (.iload_n 1, 1) := by decide +kernel
theorem dX6_takes_203 : decode cX6_takes 203 = .ok (.iload 5, 2) := by decide +kernel
theorem dX6_takes_205 : decode cX6_takes 205 = .ok (.invokevirtual 89, 3) := by decide +kernel
theorem dX6_takes_208 : decode cX6_takes 208 = .ok (.ifCond .ne 9, 3) := by decide +kernel
theorem dX6_takes_211 : decode cX6_takes 211 = .ok (.aload_n 0, 1) := by decide +kernel
theorem dX6_takes_212 : decode cX6_takes 212 = .ok (.iload_n 1, 1) := by decide +kernel
theorem dX6_takes_213 : decode cX6_takes 213 = .ok (.invokevirtual 62, 3) := by decide +kernel
theorem dX6_takes_216 : decode cX6_takes 216 = .ok (.return_, 1) := by decide +kernel
theorem dX6_takes_217 : decode cX6_takes 217 = .ok (.aload_n 0, 1) := by decide +kernel
theorem dX6_takes_218 : decode cX6_takes 218 = .ok (.getfield 7, 3) := by decide +kernel
theorem dX6_takes_221 : decode cX6_takes 221 = .ok (.iconst 0, 1) := by decide +kernel
theorem dX6_takes_222 : decode cX6_takes 222 = .ok (.aload_n 0, 1) := by decide +kernel
theorem dX6_takes_223 : decode cX6_takes 223 = .ok (.getfield 7, 3) := by decide +kernel
theorem dX6_takes_226 : decode cX6_takes 226 = .ok (.iload_n 2, 1) := by decide +kernel
theorem dX6_takes_227 : decode cX6_takes 227 = .ok (.iconst 0, 1) := by decide +kernel
theorem dX6_takes_228 : decode cX6_takes 228 = .ok (.invokestatic 38, 3) := by decide +kernel
theorem dX6_takes_231 : decode cX6_takes 231 = .ok (.iaload, 1) := by decide +kernel
theorem dX6_takes_232 : decode cX6_takes 232 = .ok (.iadd, 1) := by decide +kernel
theorem dX6_takes_233 : decode cX6_takes 233 = .ok (.dup2, 1) := by decide +kernel
theorem dX6_takes_234 : decode cX6_takes 234 = .ok (.iaload, 1) := by decide +kernel
theorem dX6_takes_235 : decode cX6_takes 235 = .ok (.iload 5, 2) := by decide +kernel
theorem dX6_takes_237 : decode cX6_takes 237 = .ok (.isub, 1) := by decide +kernel
theorem dX6_takes_238 : decode cX6_takes 238 = .ok (.iastore, 1) := by decide +kernel
theorem dX6_takes_239 : decode cX6_takes 239 = .ok (.aload_n 0, 1) := by decide +kernel
theorem dX6_takes_240 : decode cX6_takes 240 = .ok (.getfield 7, 3) := by decide +kernel
theorem dX6_takes_243 : decode cX6_takes 243 = .ok (.iconst 0, 1) := by decide +kernel
theorem dX6_takes_244 : decode cX6_takes 244 = .ok (.aload_n 0, 1) := by decide +kernel
theorem dX6_takes_245 : decode cX6_takes 245 = .ok (.getfield 7, 3) := by decide +kernel
theorem dX6_takes_248 : decode cX6_takes 248 = .ok (.iload_n 1, 1) := by decide +kernel
theorem dX6_takes_249 : decode cX6_takes 249 = .ok (.iconst 0, 1) := by decide +kernel
theorem dX6_takes_250 : decode cX6_takes 250 = .ok (.invokestatic 52, 3) := by decide +kernel
theorem dX6_takes_253 : decode cX6_takes 253 = .ok (.iaload, 1) := by decide +kernel
theorem dX6_takes_254 : decode cX6_takes 254 = .ok (.iadd, 1) := by decide +kernel
theorem dX6_takes_255 : decode cX6_takes 255 = .ok (.dup2, 1) := by decide +kernel
theorem dX6_takes_256 : decode cX6_takes 256 = .ok (.iaload, 1) := by decide +kernel
theorem dX6_takes_257 : decode cX6_takes 257 = .ok (.iload 5, 2) := by decide +kernel
theorem dX6_takes_259 : decode cX6_takes 259 = .ok (.iadd, 1) := by decide +kernel
theorem dX6_takes_260 : decode cX6_takes 260 = .ok (.iastore, 1) := by decide +kernel
theorem dX6_takes_261 : decode cX6_takes 261 = .ok (.aload_n 0, 1) := by decide +kernel
theorem dX6_takes_262 : decode cX6_takes 262 = .ok (.getfield 7, 3) := by decide +kernel
theorem dX6_takes_265 : decode cX6_takes 265 = .ok (.sipush 489, 3) := by decide +kernel
theorem dX6_takes_268 : decode cX6_takes 268 = .ok (.dup2, 1) := by decide +kernel
theorem dX6_takes_269 : decode cX6_takes 269 = .ok (.iaload, 1) := by decide +kernel
theorem dX6_takes_270 : decode cX6_takes 270 = .ok (.iload 5, 2) := by decide +kernel
theorem dX6_takes_272 : decode cX6_takes 272 = .ok (.iadd, 1) := by decide +kernel
theorem dX6_takes_273 : decode cX6_takes 273 = .ok (.iastore, 1) := by decide +kernel
theorem dX6_takes_274 : decode cX6_takes 274 = .ok (.aload_n 0, 1) := by decide +kernel
theorem dX6_takes_275 : decode cX6_takes 275 = .ok (.getfield 7, 3) := by decide +kernel
theorem dX6_takes_278 : decode cX6_takes 278 = .ok (.iload_n 1, 1) := by decide +kernel
theorem dX6_takes_279 : decode cX6_takes 279 = .ok (.iconst 4, 1) := by decide +kernel
theorem dX6_takes_280 : decode cX6_takes 280 = .ok (.invokestatic 52, 3) := by decide +kernel
theorem dX6_takes_283 : decode cX6_takes 283 = .ok (.iconst 1, 1) := by decide +kernel
theorem dX6_takes_284 : decode cX6_takes 284 = .ok (.iastore, 1) := by decide +kernel
theorem dX6_takes_285 : decode cX6_takes 285 = .ok (.aload_n 0, 1) := by decide +kernel
theorem dX6_takes_286 : decode cX6_takes 286 = .ok (.getfield 7, 3) := by decide +kernel
theorem dX6_takes_289 : decode cX6_takes 289 = .ok (.iload_n 1, 1) := by decide +kernel
theorem dX6_takes_290 : decode cX6_takes 290 = .ok (.bipush 7, 2) := by decide +kernel
theorem dX6_takes_292 : decode cX6_takes 292 = .ok (.invokestatic 52, 3) := by decide +kernel
theorem dX6_takes_295 : decode cX6_takes 295 = .ok (.iload 5, 2) := by decide +kernel
theorem dX6_takes_297 : decode cX6_takes 297 = .ok (.iastore, 1) := by decide +kernel
theorem dX6_takes_298 : decode cX6_takes 298 = .ok (.aload_n 0, 1) := by decide +kernel
theorem dX6_takes_299 : decode cX6_takes 299 = .ok (.getfield 7, 3) := by decide +kernel
theorem dX6_takes_302 : decode cX6_takes 302 = .ok (.iload_n 2, 1) := by decide +kernel
theorem dX6_takes_303 : decode cX6_takes 303 = .ok (.iconst 3, 1) := by decide +kernel
theorem dX6_takes_304 : decode cX6_takes 304 = .ok (.invokestatic 38, 3) := by decide +kernel
theorem dX6_takes_307 : decode cX6_takes 307 = .ok (.iconst 1, 1) := by decide +kernel
theorem dX6_takes_308 : decode cX6_takes 308 = .ok (.iastore, 1) := by decide +kernel
theorem dX6_takes_309 : decode cX6_takes 309 = .ok (.aload_n 0, 1) := by decide +kernel
theorem dX6_takes_310 : decode cX6_takes 310 = .ok (.getfield 7, 3) := by decide +kernel
theorem dX6_takes_313 : decode cX6_takes 313 = .ok (.iload_n 2, 1) := by decide +kernel
theorem dX6_takes_314 : decode cX6_takes 314 = .ok (.iconst 4, 1) := by decide +kernel
theorem dX6_takes_315 : decode cX6_takes 315 = .ok (.invokestatic 38, 3) := by decide +kernel
theorem dX6_takes_318 : decode cX6_takes 318 = .ok (.iload_n 1, 1) := by decide +kernel
theorem dX6_takes_319 : decode cX6_takes 319 = .ok (.iconst 1, 1) := by decide +kernel
theorem dX6_takes_320 : decode cX6_takes 320 = .ok (.iadd, 1) := by decide +kernel
theorem dX6_takes_321 : decode cX6_takes 321 = .ok (.iastore, 1) := by decide +kernel
theorem dX6_takes_322 : decode cX6_takes 322 = .ok (.return_, 1) := by decide +kernel
set_option maxRecDepth 20000 in
theorem ggX6_round_X6_takes : GoodIn wsX6_round wsX6_takes := goodIn_r _ [6, 1, 7, 8, 5, 9, 10, 11, 12, 13, 14, 15, 16, 17, 18, 19, 20, 21, 22, 23, 24, 25, 26, 27, 28, 29, 30, 31, 32, 33, 34, 35, 36, 37, 38, 39, 40, 41, 42, 43, 44, 45, 46, 47, 48, 49, 50, 51, 52, 53, 54, 55, 56, 57] (by decide +kernel) (by decide +kernel)
set_option maxRecDepth 20000 in
theorem gX6_round_X6_takes : GoodIn wsX6_round (wsV RX6 93 RX6 yX6_takes wsX6_takes) := goodIn_app (goodIn_of _ (by decide +kernel)) ggX6_round_X6_takes
theorem dX6_round_0 : decode cX6_round 0 = .ok (.aload_n 0, 1) := by decide +kernel
theorem dX6_round_1 : decode cX6_round 1 = .ok (.getfield 7, 3) := by decide +kernel
theorem dX6_round_4 : decode cX6_round 4 = .ok (.sipush 476, 3) := by decide +kernel
theorem dX6_round_7 : decode cX6_round 7 = .ok (.iaload, 1) := by decide +kernel
theorem dX6_round_8 : decode cX6_round 8 = .ok (.aload_n 0, 1) := by decide +kernel
theorem dX6_round_9 : decode cX6_round 9 = .ok (.getfield 7, 3) := by decide +kernel
theorem dX6_round_12 : decode cX6_round 12 = .ok (.sipush 481, 3) := by decide +kernel
theorem dX6_round_15 : decode cX6_round 15 = .ok (.iaload, 1) := by decide +kernel
theorem dX6_round_16 : decode cX6_round 16 = .ok (.if_icmp .ge 14, 3) := by decide +kernel
theorem dX6_round_19 : decode cX6_round 19 = .ok (.aload_n 0, 1) := by decide +kernel
theorem dX6_round_20 : decode cX6_round 20 = .ok (.getfield 7, 3) := by decide +kernel
theorem dX6_round_23 : decode cX6_round 23 = .ok (.sipush 476, 3) := by decide +kernel
theorem dX6_round_26 : decode cX6_round 26 = .ok (.iaload, 1) := by decide +kernel
theorem dX6_round_27 : decode cX6_round 27 = .ok (.goto 11, 3) := by decide +kernel
theorem dX6_round_30 : decode cX6_round 30 = .ok (.aload_n 0, 1) := by decide +kernel
theorem dX6_round_31 : decode cX6_round 31 = .ok (.getfield 7, 3) := by decide +kernel
theorem dX6_round_34 : decode cX6_round 34 = .ok (.sipush 481, 3) := by decide +kernel
theorem dX6_round_37 : decode cX6_round 37 = .ok (.iaload, 1) := by decide +kernel
theorem dX6_round_38 : decode cX6_round 38 = .ok (.istore_n 1, 1) := by decide +kernel
theorem dX6_round_39 : decode cX6_round 39 = .ok (.iconst 0, 1) := by decide +kernel
theorem dX6_round_40 : decode cX6_round 40 = .ok (.istore_n 2, 1) := by decide +kernel
theorem dX6_round_41 : decode cX6_round 41 = .ok (.iload_n 2, 1) := by decide +kernel
theorem dX6_round_42 : decode cX6_round 42 = .ok (.iload_n 1, 1) := by decide +kernel
theorem dX6_round_43 : decode cX6_round 43 = .ok (.if_icmp .ge 81, 3) := by decide +kernel
theorem dX6_round_46 : decode cX6_round 46 = .ok (.aload_n 0, 1) := by decide +kernel
theorem dX6_round_47 : decode cX6_round 47 = .ok (.getfield 7, 3) := by decide +kernel
theorem dX6_round_50 : decode cX6_round 50 = .ok (.sipush 436, 3) := by decide +kernel
theorem dX6_round_53 : decode cX6_round 53 = .ok (.iaload, 1) := by decide +kernel
theorem dX6_round_54 : decode cX6_round 54 = .ok (.istore_n 3, 1) := by decide +kernel
theorem dX6_round_55 : decode cX6_round 55 = .ok (.aload_n 0, 1) := by decide +kernel
theorem dX6_round_56 : decode cX6_round 56 = .ok (.getfield 7, 3) := by decide +kernel
theorem dX6_round_59 : decode cX6_round 59 = .ok (.sipush 476, 3) := by decide +kernel
theorem dX6_round_62 : decode cX6_round 62 = .ok (.dup2, 1) := by decide +kernel
theorem dX6_round_63 : decode cX6_round 63 = .ok (.iaload, 1) := by decide +kernel
theorem dX6_round_64 : decode cX6_round 64 = .ok (.iconst 1, 1) := by decide +kernel
theorem dX6_round_65 : decode cX6_round 65 = .ok (.isub, 1) := by decide +kernel
theorem dX6_round_66 : decode cX6_round 66 = .ok (.iastore, 1) := by decide +kernel
theorem dX6_round_67 : decode cX6_round 67 = .ok (.iconst 0, 1) := by decide +kernel
theorem dX6_round_68 : decode cX6_round 68 = .ok (.istore 4, 2) := by decide +kernel
theorem dX6_round_70 : decode cX6_round 70 = .ok (.iload 4, 2) := by decide +kernel
theorem dX6_round_72 : decode cX6_round 72 = .ok (.aload_n 0, 1) := by decide +kernel
theorem dX6_round_73 : decode cX6_round 73 = .ok (.getfield 7, 3) := by decide +kernel
theorem dX6_round_76 : decode cX6_round 76 = .ok (.sipush 476, 3) := by decide +kernel
theorem dX6_round_79 : decode cX6_round 79 = .ok (.iaload, 1) := by decide +kernel
theorem dX6_round_80 : decode cX6_round 80 = .ok (.if_icmp .ge 33, 3) := by decide +kernel
theorem dX6_round_83 : decode cX6_round 83 = .ok (.aload_n 0, 1) := by decide +kernel
theorem dX6_round_84 : decode cX6_round 84 = .ok (.getfield 7, 3) := by decide +kernel
theorem dX6_round_87 : decode cX6_round 87 = .ok (.sipush 436, 3) := by decide +kernel
theorem dX6_round_90 : decode cX6_round 90 = .ok (.iload 4, 2) := by decide +kernel
theorem dX6_round_92 : decode cX6_round 92 = .ok (.iadd, 1) := by decide +kernel
theorem dX6_round_93 : decode cX6_round 93 = .ok (.aload_n 0, 1) := by decide +kernel
theorem dX6_round_94 : decode cX6_round 94 = .ok (.getfield 7, 3) := by decide +kernel
theorem dX6_round_97 : decode cX6_round 97 = .ok (.sipush 436, 3) := by decide +kernel
theorem dX6_round_100 : decode cX6_round 100 = .ok (.iload 4, 2) := by decide +kernel
theorem dX6_round_102 : decode cX6_round 102 = .ok (.iadd, 1) := by decide +kernel
theorem dX6_round_103 : decode cX6_round 103 = .ok (.iconst 1, 1) := by decide +kernel
theorem dX6_round_104 : decode cX6_round 104 = .ok (.iadd, 1) := by decide +kernel
theorem dX6_round_105 : decode cX6_round 105 = .ok (.iaload, 1) := by decide +kernel
theorem dX6_round_106 : decode cX6_round 106 = .ok (.iastore, 1) := by decide +kernel
theorem dX6_round_107 : decode cX6_round 107 = .ok (.iinc 4 1, 3) := by decide +kernel
theorem dX6_round_110 : decode cX6_round 110 = .ok (.goto (-40), 3) := by decide +kernel
theorem dX6_round_113 : decode cX6_round 113 = .ok (.aload_n 0, 1) := by decide +kernel
theorem dX6_round_114 : decode cX6_round 114 = .ok (.iload_n 3, 1) := by decide +kernel
theorem dX6_round_115 : decode cX6_round 115 = .ok (.invokevirtual 93, 3) := by decide +kernel
theorem dX6_round_118 : decode cX6_round 118 = .ok (.iinc 2 1, 3) := by decide +kernel
theorem dX6_round_121 : decode cX6_round 121 = .ok (.goto (-80), 3) := by decide +kernel
theorem dX6_round_124 : decode cX6_round 124 = .ok (.iconst 0, 1) := by decide +kernel
theorem dX6_round_125 : decode cX6_round 125 = .ok (.istore_n 2, 1) := by decide +kernel
theorem dX6_round_126 : decode cX6_round 126 = .ok (.iload_n 2, 1) := by decide +kernel
theorem dX6_round_127 : decode cX6_round 127 = .ok (.bipush 8, 2) := by decide +kernel
theorem dX6_round_129 : decode cX6_round 129 = .ok (.if_icmp .ge 85, 3) := by decide +kernel
theorem dX6_round_132 : decode cX6_round 132 = .ok (.aload_n 0, 1) := by decide +kernel
theorem dX6_round_133 : decode cX6_round 133 = .ok (.getfield 7, 3) := by decide +kernel
theorem dX6_round_136 : decode cX6_round 136 = .ok (.iconst 0, 1) := by decide +kernel
theorem dX6_round_137 : decode cX6_round 137 = .ok (.iload_n 2, 1) := by decide +kernel
theorem dX6_round_138 : decode cX6_round 138 = .ok (.iadd, 1) := by decide +kernel
theorem dX6_round_139 : decode cX6_round 139 = .ok (.iaload, 1) := by decide +kernel
theorem dX6_round_140 : decode cX6_round 140 = .ok (.ifCond .ge 18, 3) := by decide +kernel
theorem dX6_round_143 : decode cX6_round 143 = .ok (.aload_n 0, 1) := by decide +kernel
theorem dX6_round_144 : decode cX6_round 144 = .ok (.getfield 7, 3) := by decide +kernel
theorem dX6_round_147 : decode cX6_round 147 = .ok (.iconst 0, 1) := by decide +kernel
theorem dX6_round_148 : decode cX6_round 148 = .ok (.iload_n 2, 1) := by decide +kernel
theorem dX6_round_149 : decode cX6_round 149 = .ok (.iadd, 1) := by decide +kernel
theorem dX6_round_150 : decode cX6_round 150 = .ok (.iaload, 1) := by decide +kernel
theorem dX6_round_151 : decode cX6_round 151 = .ok (.ineg, 1) := by decide +kernel
theorem dX6_round_152 : decode cX6_round 152 = .ok (.bipush 20, 2) := by decide +kernel
theorem dX6_round_154 : decode cX6_round 154 = .ok (.idiv, 1) := by decide +kernel
theorem dX6_round_155 : decode cX6_round 155 = .ok (.goto 4, 3) := by decide +kernel
theorem dX6_round_158 : decode cX6_round 158 = .ok (.iconst 0, 1) := by decide +kernel
theorem dX6_round_159 : decode cX6_round 159 = .ok (.istore_n 3, 1) := by decide +kernel
theorem dX6_round_160 : decode cX6_round 160 = .ok (.iload_n 3, 1) := by decide +kernel
theorem dX6_round_161 : decode cX6_round 161 = .ok (.iconst 5, 1) := by decide +kernel
theorem dX6_round_162 : decode cX6_round 162 = .ok (.if_icmp .le 7, 3) := by decide +kernel
theorem dX6_round_165 : decode cX6_round 165 = .ok (.iconst 5, 1) := by decide +kernel
theorem dX6_round_166 : decode cX6_round 166 = .ok (.goto 4, 3) := by decide +kernel
theorem dX6_round_169 : decode cX6_round 169 = .ok (.iload_n 3, 1) := by decide +kernel
theorem dX6_round_170 : decode cX6_round 170 = .ok (.istore_n 3, 1) := by decide +kernel
theorem dX6_round_171 : decode cX6_round 171 = .ok (.aload_n 0, 1) := by decide +kernel
theorem dX6_round_172 : decode cX6_round 172 = .ok (.getfield 7, 3) := by decide +kernel
theorem dX6_round_175 : decode cX6_round 175 = .ok (.iconst 0, 1) := by decide +kernel
theorem dX6_round_176 : decode cX6_round 176 = .ok (.iload_n 2, 1) := by decide +kernel
theorem dX6_round_177 : decode cX6_round 177 = .ok (.iadd, 1) := by decide +kernel
theorem dX6_round_178 : decode cX6_round 178 = .ok (.dup2, 1) := by decide +kernel
theorem dX6_round_179 : decode cX6_round 179 = .ok (.iaload, 1) := by decide +kernel
theorem dX6_round_180 : decode cX6_round 180 = .ok (.iload_n 3, 1) := by decide +kernel
theorem dX6_round_181 : decode cX6_round 181 = .ok (.isub, 1) := by decide +kernel
theorem dX6_round_182 : decode cX6_round 182 = .ok (.iastore, 1) := by decide +kernel
theorem dX6_round_183 : decode cX6_round 183 = .ok (.aload_n 0, 1) := by decide +kernel
theorem dX6_round_184 : decode cX6_round 184 = .ok (.getfield 7, 3) := by decide +kernel
theorem dX6_round_187 : decode cX6_round 187 = .ok (.bipush 8, 2) := by decide +kernel
theorem dX6_round_189 : decode cX6_round 189 = .ok (.iload_n 2, 1) := by decide +kernel
theorem dX6_round_190 : decode cX6_round 190 = .ok (.iadd, 1) := by decide +kernel
theorem dX6_round_191 : decode cX6_round 191 = .ok (.dup2, 1) := by decide +kernel
theorem dX6_round_192 : decode cX6_round 192 = .ok (.iaload, 1) := by decide +kernel
theorem dX6_round_193 : decode cX6_round 193 = .ok (.iload_n 3, 1) := by decide +kernel
theorem dX6_round_194 : decode cX6_round 194 = .ok (.iadd, 1) := by decide +kernel
theorem dX6_round_195 : decode cX6_round 195 = .ok (.iastore, 1) := by decide +kernel
theorem dX6_round_196 : decode cX6_round 196 = .ok (.aload_n 0, 1) := by decide +kernel
theorem dX6_round_197 : decode cX6_round 197 = .ok (.getfield 7, 3) := by decide +kernel
theorem dX6_round_200 : decode cX6_round 200 = .ok (.sipush 486, 3) := by decide +kernel
theorem dX6_round_203 : decode cX6_round 203 = .ok (.dup2, 1) := by decide +kernel
theorem dX6_round_204 : decode cX6_round 204 = .ok (.iaload, 1) := by decide +kernel
theorem dX6_round_205 : decode cX6_round 205 = .ok (.iload_n 3, 1) := by decide +kernel
theorem dX6_round_206 : decode cX6_round 206 = .ok (.iadd, 1) := by decide +kernel
theorem dX6_round_207 : decode cX6_round 207 = .ok (.iastore, 1) := by decide +kernel
theorem dX6_round_208 : decode cX6_round 208 = .ok (.iinc 2 1, 3) := by decide +kernel
theorem dX6_round_211 : decode cX6_round 211 = .ok (.goto (-85), 3) := by decide +kernel
theorem dX6_round_214 : decode cX6_round 214 = .ok (.aload_n 0, 1) := by decide +kernel
theorem dX6_round_215 : decode cX6_round 215 = .ok (.getfield 7, 3) := by decide +kernel
theorem dX6_round_218 : decode cX6_round 218 = .ok (.sipush 485, 3) := by decide +kernel
theorem dX6_round_221 : decode cX6_round 221 = .ok (.dup2, 1) := by decide +kernel
theorem dX6_round_222 : decode cX6_round 222 = .ok (.iaload, 1) := by decide +kernel
theorem dX6_round_223 : decode cX6_round 223 = .ok (.iconst 1, 1) := by decide +kernel
theorem dX6_round_224 : decode cX6_round 224 = .ok (.iadd, 1) := by decide +kernel
theorem dX6_round_225 : decode cX6_round 225 = .ok (.iastore, 1) := by decide +kernel
theorem dX6_round_226 : decode cX6_round 226 = .ok (.return_, 1) := by decide +kernel
set_option maxRecDepth 20000 in
theorem ggX6_inState_X6_ofA : GoodIn wsX6_inState wsX6_ofA := goodIn_r _ [5] (by decide +kernel) (by decide +kernel)
set_option maxRecDepth 20000 in
theorem gX6_inState_X6_ofA : GoodIn wsX6_inState (va_wsS RX6 52 yX6_ofA wsX6_ofA) := goodIn_app (goodIn_of _ (by decide +kernel)) ggX6_inState_X6_ofA
theorem dX6_inState_0 : decode cX6_inState 0 = .ok (.iconst 0, 1) := by decide +kernel
theorem dX6_inState_1 : decode cX6_inState 1 = .ok (.istore_n 2, 1) := by decide +kernel
theorem dX6_inState_2 : decode cX6_inState 2 = .ok (.iconst 0, 1) := by decide +kernel
theorem dX6_inState_3 : decode cX6_inState 3 = .ok (.istore_n 3, 1) := by decide +kernel
theorem dX6_inState_4 : decode cX6_inState 4 = .ok (.iload_n 3, 1) := by decide +kernel
theorem dX6_inState_5 : decode cX6_inState 5 = .ok (.aload_n 0, 1) := by decide +kernel
theorem dX6_inState_6 : decode cX6_inState 6 = .ok (.getfield 7, 3) := by decide +kernel
theorem dX6_inState_9 : decode cX6_inState 9 = .ok (.sipush 484, 3) := by decide +kernel
theorem dX6_inState_12 : decode cX6_inState 12 = .ok (.iaload, 1) := by decide +kernel
theorem dX6_inState_13 : decode cX6_inState 13 = .ok (.if_icmp .ge 31, 3) := by decide +kernel
theorem dX6_inState_16 : decode cX6_inState 16 = .ok (.iload_n 2, 1) := by decide +kernel
theorem dX6_inState_17 : decode cX6_inState 17 = .ok (.aload_n 0, 1) := by decide +kernel
theorem dX6_inState_18 : decode cX6_inState 18 = .ok (.getfield 7, 3) := by decide +kernel
theorem dX6_inState_21 : decode cX6_inState 21 = .ok (.iload_n 3, 1) := by decide +kernel
theorem dX6_inState_22 : decode cX6_inState 22 = .ok (.iconst 4, 1) := by decide +kernel
theorem dX6_inState_23 : decode cX6_inState 23 = .ok (.invokestatic 52, 3) := by decide +kernel
theorem dX6_inState_26 : decode cX6_inState 26 = .ok (.iaload, 1) := by decide +kernel
theorem dX6_inState_27 : decode cX6_inState 27 = .ok (.iload_n 1, 1) := by decide +kernel
theorem dX6_inState_28 : decode cX6_inState 28 = .ok (.if_icmp .ne 7, 3) := by decide +kernel
theorem dX6_inState_31 : decode cX6_inState 31 = .ok (.iconst 1, 1) := by decide +kernel
theorem dX6_inState_32 : decode cX6_inState 32 = .ok (.goto 4, 3) := by decide +kernel
theorem dX6_inState_35 : decode cX6_inState 35 = .ok (.iconst 0, 1) := by decide +kernel
theorem dX6_inState_36 : decode cX6_inState 36 = .ok (.iadd, 1) := by decide +kernel
theorem dX6_inState_37 : decode cX6_inState 37 = .ok (.istore_n 2, 1) := by decide +kernel
theorem dX6_inState_38 : decode cX6_inState 38 = .ok (.iinc 3 1, 3) := by decide +kernel
theorem dX6_inState_41 : decode cX6_inState 41 = .ok (.goto (-37), 3) := by decide +kernel
theorem dX6_inState_44 : decode cX6_inState 44 = .ok (.iload_n 2, 1) := by decide +kernel
theorem dX6_inState_45 : decode cX6_inState 45 = .ok (.ireturn, 1) := by decide +kernel
set_option maxRecDepth 20000 in
theorem ggX6_passes_X6_inState : GoodIn wsX6_passes wsX6_inState := goodIn_r _ [5, 6, 7, 8, 4, 9, 48, 49, 50, 51, 52, 53, 54, 55, 56, 57, 58, 59, 60, 61, 62, 63, 64, 65] (by decide +kernel) (by decide +kernel)
set_option maxRecDepth 20000 in
theorem gX6_passes_X6_inState : GoodIn wsX6_passes (wsV RX6 96 RX6 yX6_inState wsX6_inState) := goodIn_app (goodIn_of _ (by decide +kernel)) ggX6_passes_X6_inState
set_option maxRecDepth 20000 in
theorem ggX6_passes_X6_round : GoodIn wsX6_passes wsX6_round := goodIn_r _ [13, 6, 14, 15, 16, 4, 17, 7, 8, 9, 18, 19, 20, 21, 22, 23, 24, 25, 26, 27, 28, 29, 30, 31, 32, 33, 34, 35, 36, 37, 38, 39, 40, 41, 42, 43, 44, 45, 46, 47, 48, 49, 50, 51, 52, 53, 54, 55, 56, 57, 58, 59, 60, 61, 62, 63, 64, 65] (by decide +kernel) (by decide +kernel)
set_option maxRecDepth 20000 in
theorem gX6_passes_X6_round : GoodIn wsX6_passes (wsV RX6 99 RX6 yX6_round wsX6_round) := goodIn_app (goodIn_of _ (by decide +kernel)) ggX6_passes_X6_round
theorem dX6_passes_0 : decode cX6_passes 0 = .ok (.aload_n 0, 1) := by decide +kernel
theorem dX6_passes_1 : decode cX6_passes 1 = .ok (.iconst 1, 1) := by decide +kernel
theorem dX6_passes_2 : decode cX6_passes 2 = .ok (.invokevirtual 96, 3) := by decide +kernel
theorem dX6_passes_5 : decode cX6_passes 5 = .ok (.istore_n 2, 1) := by decide +kernel
theorem dX6_passes_6 : decode cX6_passes 6 = .ok (.iconst 0, 1) := by decide +kernel
theorem dX6_passes_7 : decode cX6_passes 7 = .ok (.istore_n 3, 1) := by decide +kernel
theorem dX6_passes_8 : decode cX6_passes 8 = .ok (.iload_n 3, 1) := by decide +kernel
theorem dX6_passes_9 : decode cX6_passes 9 = .ok (.iload_n 1, 1) := by decide +kernel
theorem dX6_passes_10 : decode cX6_passes 10 = .ok (.if_icmp .ge 13, 3) := by decide +kernel
theorem dX6_passes_13 : decode cX6_passes 13 = .ok (.aload_n 0, 1) := by decide +kernel
theorem dX6_passes_14 : decode cX6_passes 14 = .ok (.invokevirtual 99, 3) := by decide +kernel
theorem dX6_passes_17 : decode cX6_passes 17 = .ok (.iinc 3 1, 3) := by decide +kernel
theorem dX6_passes_20 : decode cX6_passes 20 = .ok (.goto (-12), 3) := by decide +kernel
theorem dX6_passes_23 : decode cX6_passes 23 = .ok (.aload_n 0, 1) := by decide +kernel
theorem dX6_passes_24 : decode cX6_passes 24 = .ok (.iconst 1, 1) := by decide +kernel
theorem dX6_passes_25 : decode cX6_passes 25 = .ok (.invokevirtual 96, 3) := by decide +kernel
theorem dX6_passes_28 : decode cX6_passes 28 = .ok (.iload_n 2, 1) := by decide +kernel
theorem dX6_passes_29 : decode cX6_passes 29 = .ok (.isub, 1) := by decide +kernel
theorem dX6_passes_30 : decode cX6_passes 30 = .ok (.ireturn, 1) := by decide +kernel
set_option maxRecDepth 20000 in
theorem ggX6_barPass_X6_in : GoodIn wsX6_barPass wsX6_in := goodIn_r _ [5] (by decide +kernel) (by decide +kernel)
set_option maxRecDepth 20000 in
theorem gX6_barPass_X6_in : GoodIn wsX6_barPass (va_wsS RX6 26 yX6_in wsX6_in) := goodIn_app (goodIn_of _ (by decide +kernel)) ggX6_barPass_X6_in
theorem dX6_barPass_0 : decode cX6_barPass 0 = .ok (.iload_n 1, 1) := by decide +kernel
theorem dX6_barPass_1 : decode cX6_barPass 1 = .ok (.iconst 1, 1) := by decide +kernel
theorem dX6_barPass_2 : decode cX6_barPass 2 = .ok (.bipush 99, 2) := by decide +kernel
theorem dX6_barPass_4 : decode cX6_barPass 4 = .ok (.invokestatic 26, 3) := by decide +kernel
theorem dX6_barPass_7 : decode cX6_barPass 7 = .ok (.ifCond .ne 8, 3) := by decide +kernel
theorem dX6_barPass_10 : decode cX6_barPass 10 = .ok (.bipush (-2), 2) := by decide +kernel
theorem dX6_barPass_12 : decode cX6_barPass 12 = .ok (.goto 25, 3) := by decide +kernel
theorem dX6_barPass_15 : decode cX6_barPass 15 = .ok (.aload_n 0, 1) := by decide +kernel
theorem dX6_barPass_16 : decode cX6_barPass 16 = .ok (.getfield 7, 3) := by decide +kernel
theorem dX6_barPass_19 : decode cX6_barPass 19 = .ok (.sipush 485, 3) := by decide +kernel
theorem dX6_barPass_22 : decode cX6_barPass 22 = .ok (.iaload, 1) := by decide +kernel
theorem dX6_barPass_23 : decode cX6_barPass 23 = .ok (.iload_n 1, 1) := by decide +kernel
theorem dX6_barPass_24 : decode cX6_barPass 24 = .ok (.iadd, 1) := by decide +kernel
theorem dX6_barPass_25 : decode cX6_barPass 25 = .ok (.sipush 9999, 3) := by decide +kernel
theorem dX6_barPass_28 : decode cX6_barPass 28 = .ok (.if_icmp .le 8, 3) := by decide +kernel
theorem dX6_barPass_31 : decode cX6_barPass 31 = .ok (.bipush (-3), 2) := by decide +kernel
theorem dX6_barPass_33 : decode cX6_barPass 33 = .ok (.goto 4, 3) := by decide +kernel
theorem dX6_barPass_36 : decode cX6_barPass 36 = .ok (.iconst 0, 1) := by decide +kernel
theorem dX6_barPass_37 : decode cX6_barPass 37 = .ok (.ireturn, 1) := by decide +kernel
set_option maxRecDepth 20000 in
theorem ggX6_pass_X6_barPass : GoodIn wsX6_pass wsX6_barPass := goodIn_r _ [5, 6, 7, 8, 4, 9, 65, 66, 67, 68, 69, 70, 71, 72, 73, 74, 75, 76, 77, 78, 79, 80, 81, 82] (by decide +kernel) (by decide +kernel)
set_option maxRecDepth 20000 in
theorem gX6_pass_X6_barPass : GoodIn wsX6_pass (wsV RX6 102 RX6 yX6_barPass wsX6_barPass) := goodIn_app (goodIn_of _ (by decide +kernel)) ggX6_pass_X6_barPass
set_option maxRecDepth 20000 in
theorem ggX6_pass_X6_records : GoodIn wsX6_pass wsX6_records := goodIn_r _ [13, 14, 15, 6, 65, 66, 67, 68, 69, 70, 71, 72, 73, 74, 75, 76, 77, 78, 79, 80, 81, 82] (by decide +kernel) (by decide +kernel)
set_option maxRecDepth 20000 in
theorem gX6_pass_X6_records : GoodIn wsX6_pass (wsV RX6 46 RX6 yX6_records wsX6_records) := goodIn_app (goodIn_of _ (by decide +kernel)) ggX6_pass_X6_records
set_option maxRecDepth 20000 in
theorem ggX6_pass_X6_passes : GoodIn wsX6_pass wsX6_passes := goodIn_r _ [19, 20, 21, 22, 4, 23, 6, 24, 25, 26, 27, 28, 29, 30, 31, 32, 33, 34, 35, 36, 37, 38, 39, 40, 41, 42, 43, 44, 45, 46, 47, 48, 49, 50, 51, 52, 53, 54, 55, 56, 57, 58, 59, 60, 61, 62, 63, 64, 65, 66, 67, 68, 69, 70, 71, 72, 73, 74, 75, 76, 77, 78, 79, 80, 81, 82] (by decide +kernel) (by decide +kernel)
set_option maxRecDepth 20000 in
theorem gX6_pass_X6_passes : GoodIn wsX6_pass (wsV RX6 105 RX6 yX6_passes wsX6_passes) := goodIn_app (goodIn_of _ (by decide +kernel)) ggX6_pass_X6_passes
theorem dX6_pass_0 : decode cX6_pass 0 = .ok (.aload_n 0, 1) := by decide +kernel
theorem dX6_pass_1 : decode cX6_pass 1 = .ok (.iload_n 1, 1) := by decide +kernel
theorem dX6_pass_2 : decode cX6_pass 2 = .ok (.invokevirtual 102, 3) := by decide +kernel
theorem dX6_pass_5 : decode cX6_pass 5 = .ok (.istore_n 2, 1) := by decide +kernel
theorem dX6_pass_6 : decode cX6_pass 6 = .ok (.iload_n 2, 1) := by decide +kernel
theorem dX6_pass_7 : decode cX6_pass 7 = .ok (.ifCond .ge 5, 3) := by decide +kernel
theorem dX6_pass_10 : decode cX6_pass 10 = .ok (.iload_n 2, 1) := by decide +kernel
theorem dX6_pass_11 : decode cX6_pass 11 = .ok (.ireturn, 1) := by decide +kernel
theorem dX6_pass_12 : decode cX6_pass 12 = .ok (.aload_n 0, 1) := by decide +kernel
theorem dX6_pass_13 : decode cX6_pass 13 = .ok (.invokevirtual 46, 3) := by decide +kernel
theorem dX6_pass_16 : decode cX6_pass 16 = .ok (.aload_n 0, 1) := by decide +kernel
theorem dX6_pass_17 : decode cX6_pass 17 = .ok (.iload_n 1, 1) := by decide +kernel
theorem dX6_pass_18 : decode cX6_pass 18 = .ok (.invokevirtual 105, 3) := by decide +kernel
theorem dX6_pass_21 : decode cX6_pass 21 = .ok (.ireturn, 1) := by decide +kernel
theorem dX6_type_0 : decode cX6_type 0 = .ok (.aload_n 0, 1) := by decide +kernel
theorem dX6_type_1 : decode cX6_type 1 = .ok (.getfield 108, 3) := by decide +kernel
theorem dX6_type_4 : decode cX6_type 4 = .ok (.bipush 60, 2) := by decide +kernel
theorem dX6_type_6 : decode cX6_type 6 = .ok (.if_icmp .ne 6, 3) := by decide +kernel
theorem dX6_type_9 : decode cX6_type 9 = .ok (.bipush (-3), 2) := by decide +kernel
theorem dX6_type_11 : decode cX6_type 11 = .ok (.ireturn, 1) := by decide +kernel
theorem dX6_type_12 : decode cX6_type 12 = .ok (.aload_n 0, 1) := by decide +kernel
theorem dX6_type_13 : decode cX6_type 13 = .ok (.getfield 22, 3) := by decide +kernel
theorem dX6_type_16 : decode cX6_type 16 = .ok (.aload_n 0, 1) := by decide +kernel
theorem dX6_type_17 : decode cX6_type 17 = .ok (.getfield 108, 3) := by decide +kernel
theorem dX6_type_20 : decode cX6_type 20 = .ok (.iload_n 1, 1) := by decide +kernel
theorem dX6_type_21 : decode cX6_type 21 = .ok (.castore, 1) := by decide +kernel
theorem dX6_type_22 : decode cX6_type 22 = .ok (.aload_n 0, 1) := by decide +kernel
theorem dX6_type_23 : decode cX6_type 23 = .ok (.dup, 1) := by decide +kernel
theorem dX6_type_24 : decode cX6_type 24 = .ok (.getfield 108, 3) := by decide +kernel
theorem dX6_type_27 : decode cX6_type 27 = .ok (.iconst 1, 1) := by decide +kernel
theorem dX6_type_28 : decode cX6_type 28 = .ok (.iadd, 1) := by decide +kernel
theorem dX6_type_29 : decode cX6_type 29 = .ok (.putfield 108, 3) := by decide +kernel
theorem dX6_type_32 : decode cX6_type 32 = .ok (.aload_n 0, 1) := by decide +kernel
theorem dX6_type_33 : decode cX6_type 33 = .ok (.getfield 108, 3) := by decide +kernel
theorem dX6_type_36 : decode cX6_type 36 = .ok (.ireturn, 1) := by decide +kernel
theorem dX6_clearText_0 : decode cX6_clearText 0 = .ok (.aload_n 0, 1) := by decide +kernel
theorem dX6_clearText_1 : decode cX6_clearText 1 = .ok (.getfield 108, 3) := by decide +kernel
theorem dX6_clearText_4 : decode cX6_clearText 4 = .ok (.istore_n 1, 1) := by decide +kernel
theorem dX6_clearText_5 : decode cX6_clearText 5 = .ok (.aload_n 0, 1) := by decide +kernel
theorem dX6_clearText_6 : decode cX6_clearText 6 = .ok (.iconst 0, 1) := by decide +kernel
theorem dX6_clearText_7 : decode cX6_clearText 7 = .ok (.putfield 108, 3) := by decide +kernel
theorem dX6_clearText_10 : decode cX6_clearText 10 = .ok (.iload_n 1, 1) := by decide +kernel
theorem dX6_clearText_11 : decode cX6_clearText 11 = .ok (.ireturn, 1) := by decide +kernel
theorem dX6_next_0 : decode cX6_next 0 = .ok (.aload_n 0, 1) := by decide +kernel
theorem dX6_next_1 : decode cX6_next 1 = .ok (.getfield 111, 3) := by decide +kernel
theorem dX6_next_4 : decode cX6_next 4 = .ok (.aload_n 0, 1) := by decide +kernel
theorem dX6_next_5 : decode cX6_next 5 = .ok (.getfield 108, 3) := by decide +kernel
theorem dX6_next_8 : decode cX6_next 8 = .ok (.if_icmp .ge 15, 3) := by decide +kernel
theorem dX6_next_11 : decode cX6_next 11 = .ok (.aload_n 0, 1) := by decide +kernel
theorem dX6_next_12 : decode cX6_next 12 = .ok (.getfield 22, 3) := by decide +kernel
theorem dX6_next_15 : decode cX6_next 15 = .ok (.aload_n 0, 1) := by decide +kernel
theorem dX6_next_16 : decode cX6_next 16 = .ok (.getfield 111, 3) := by decide +kernel
theorem dX6_next_19 : decode cX6_next 19 = .ok (.caload, 1) := by decide +kernel
theorem dX6_next_20 : decode cX6_next 20 = .ok (.goto 4, 3) := by decide +kernel
theorem dX6_next_23 : decode cX6_next 23 = .ok (.iconst 0, 1) := by decide +kernel
theorem dX6_next_24 : decode cX6_next 24 = .ok (.ireturn, 1) := by decide +kernel
set_option maxRecDepth 20000 in
theorem ggX6_sign_X6_next : GoodIn wsX6_sign wsX6_next := goodIn_r _ [8, 2, 3, 9, 10, 11, 12, 13, 14, 15, 16, 17, 18, 19, 20, 21, 22, 23, 24, 25, 26, 27] (by decide +kernel) (by decide +kernel)
set_option maxRecDepth 20000 in
theorem gX6_sign_X6_next : GoodIn wsX6_sign (wsV RX6 118 RX6 yX6_next wsX6_next) := goodIn_app (goodIn_of _ (by decide +kernel)) ggX6_sign_X6_next
theorem dX6_sign_0 : decode cX6_sign 0 = .ok (.aload_n 0, 1) := by decide +kernel
theorem dX6_sign_1 : decode cX6_sign 1 = .ok (.aload_n 0, 1) := by decide +kernel
theorem dX6_sign_2 : decode cX6_sign 2 = .ok (.getfield 114, 3) := by decide +kernel
theorem dX6_sign_5 : decode cX6_sign 5 = .ok (.ifCond .ne 22, 3) := by decide +kernel
theorem dX6_sign_8 : decode cX6_sign 8 = .ok (.aload_n 0, 1) := by decide +kernel
theorem dX6_sign_9 : decode cX6_sign 9 = .ok (.getfield 111, 3) := by decide +kernel
theorem dX6_sign_12 : decode cX6_sign 12 = .ok (.aload_n 0, 1) := by decide +kernel
theorem dX6_sign_13 : decode cX6_sign 13 = .ok (.getfield 108, 3) := by decide +kernel
theorem dX6_sign_16 : decode cX6_sign 16 = .ok (.if_icmp .eq 11, 3) := by decide +kernel
theorem dX6_sign_19 : decode cX6_sign 19 = .ok (.aload_n 0, 1) := by decide +kernel
theorem dX6_sign_20 : decode cX6_sign 20 = .ok (.invokevirtual 118, 3) := by decide +kernel
theorem dX6_sign_23 : decode cX6_sign 23 = .ok (.iload_n 1, 1) := by decide +kernel
theorem dX6_sign_24 : decode cX6_sign 24 = .ok (.if_icmp .eq 7, 3) := by decide +kernel
theorem dX6_sign_27 : decode cX6_sign 27 = .ok (.iconst 1, 1) := by decide +kernel
theorem dX6_sign_28 : decode cX6_sign 28 = .ok (.goto 4, 3) := by decide +kernel
theorem dX6_sign_31 : decode cX6_sign 31 = .ok (.iconst 0, 1) := by decide +kernel
theorem dX6_sign_32 : decode cX6_sign 32 = .ok (.putfield 114, 3) := by decide +kernel
theorem dX6_sign_35 : decode cX6_sign 35 = .ok (.aload_n 0, 1) := by decide +kernel
theorem dX6_sign_36 : decode cX6_sign 36 = .ok (.dup, 1) := by decide +kernel
theorem dX6_sign_37 : decode cX6_sign 37 = .ok (.getfield 111, 3) := by decide +kernel
theorem dX6_sign_40 : decode cX6_sign 40 = .ok (.aload_n 0, 1) := by decide +kernel
theorem dX6_sign_41 : decode cX6_sign 41 = .ok (.getfield 114, 3) := by decide +kernel
theorem dX6_sign_44 : decode cX6_sign 44 = .ok (.ifCond .eq 7, 3) := by decide +kernel
theorem dX6_sign_47 : decode cX6_sign 47 = .ok (.iconst 0, 1) := by decide +kernel
theorem dX6_sign_48 : decode cX6_sign 48 = .ok (.goto 4, 3) := by decide +kernel
theorem dX6_sign_51 : decode cX6_sign 51 = .ok (.iconst 1, 1) := by decide +kernel
theorem dX6_sign_52 : decode cX6_sign 52 = .ok (.iadd, 1) := by decide +kernel
theorem dX6_sign_53 : decode cX6_sign 53 = .ok (.putfield 111, 3) := by decide +kernel
theorem dX6_sign_56 : decode cX6_sign 56 = .ok (.return_, 1) := by decide +kernel
set_option maxRecDepth 20000 in
theorem ggX6_number_X6_next : GoodIn wsX6_number wsX6_next := goodIn_r _ [8, 1, 2, 9, 13, 14, 15, 16, 17, 18, 19, 20, 21, 22, 23, 24, 25, 26, 27, 28, 29, 30] (by decide +kernel) (by decide +kernel)
set_option maxRecDepth 20000 in
theorem gX6_number_X6_next : GoodIn wsX6_number (wsV RX6 118 RX6 yX6_next wsX6_next) := goodIn_app (goodIn_of _ (by decide +kernel)) ggX6_number_X6_next
set_option maxRecDepth 20000 in
theorem ggX6_number_X6_in : GoodIn wsX6_number wsX6_in := goodIn_r _ [12] (by decide +kernel) (by decide +kernel)
set_option maxRecDepth 20000 in
theorem gX6_number_X6_in : GoodIn wsX6_number (va_wsS RX6 26 yX6_in wsX6_in) := goodIn_app (goodIn_of _ (by decide +kernel)) ggX6_number_X6_in
theorem dX6_number_0 : decode cX6_number 0 = .ok (.aload_n 0, 1) := by decide +kernel
theorem dX6_number_1 : decode cX6_number 1 = .ok (.getfield 111, 3) := by decide +kernel
theorem dX6_number_4 : decode cX6_number 4 = .ok (.aload_n 0, 1) := by decide +kernel
theorem dX6_number_5 : decode cX6_number 5 = .ok (.getfield 108, 3) := by decide +kernel
theorem dX6_number_8 : decode cX6_number 8 = .ok (.if_icmp .ge 13, 3) := by decide +kernel
theorem dX6_number_11 : decode cX6_number 11 = .ok (.aload_n 0, 1) := by decide +kernel
theorem dX6_number_12 : decode cX6_number 12 = .ok (.invokevirtual 118, 3) := by decide +kernel
theorem dX6_number_15 : decode cX6_number 15 = .ok (.bipush 48, 2) := by decide +kernel
theorem dX6_number_17 : decode cX6_number 17 = .ok (.isub, 1) := by decide +kernel
theorem dX6_number_18 : decode cX6_number 18 = .ok (.goto 4, 3) := by decide +kernel
theorem dX6_number_21 : decode cX6_number 21 = .ok (.iconst (-1), 1) := by decide +kernel
theorem dX6_number_22 : decode cX6_number 22 = .ok (.istore_n 3, 1) := by decide +kernel
theorem dX6_number_23 : decode cX6_number 23 = .ok (.aload_n 0, 1) := by decide +kernel
theorem dX6_number_24 : decode cX6_number 24 = .ok (.aload_n 0, 1) := by decide +kernel
theorem dX6_number_25 : decode cX6_number 25 = .ok (.getfield 114, 3) := by decide +kernel
theorem dX6_number_28 : decode cX6_number 28 = .ok (.ifCond .ne 31, 3) := by decide +kernel
theorem dX6_number_31 : decode cX6_number 31 = .ok (.iload_n 3, 1) := by decide +kernel
theorem dX6_number_32 : decode cX6_number 32 = .ok (.iload_n 1, 1) := by decide +kernel
theorem dX6_number_33 : decode cX6_number 33 = .ok (.ifCond .le 7, 3) := by decide +kernel
theorem dX6_number_36 : decode cX6_number 36 = .ok (.iconst 1, 1) := by decide +kernel
theorem dX6_number_37 : decode cX6_number 37 = .ok (.goto 4, 3) := by decide +kernel
theorem dX6_number_40 : decode cX6_number 40 = .ok (.iconst 0, 1) := by decide +kernel
theorem dX6_number_41 : decode cX6_number 41 = .ok (.iload_n 2, 1) := by decide +kernel
theorem dX6_number_42 : decode cX6_number 42 = .ok (.bipush 9, 2) := by decide +kernel
theorem dX6_number_44 : decode cX6_number 44 = .ok (.if_icmp .ge 7, 3) := by decide +kernel
theorem dX6_number_47 : decode cX6_number 47 = .ok (.iload_n 2, 1) := by decide +kernel
theorem dX6_number_48 : decode cX6_number 48 = .ok (.goto 5, 3) := by decide +kernel
theorem dX6_number_51 : decode cX6_number 51 = .ok (.bipush 9, 2) := by decide +kernel
theorem dX6_number_53 : decode cX6_number 53 = .ok (.invokestatic 26, 3) := by decide +kernel
theorem dX6_number_56 : decode cX6_number 56 = .ok (.ifCond .ne 7, 3) := by decide +kernel
theorem dX6_number_59 : decode cX6_number 59 = .ok (.iconst 1, 1) := by decide +kernel
theorem dX6_number_60 : decode cX6_number 60 = .ok (.goto 4, 3) := by decide +kernel
theorem dX6_number_63 : decode cX6_number 63 = .ok (.iconst 0, 1) := by decide +kernel
theorem dX6_number_64 : decode cX6_number 64 = .ok (.putfield 114, 3) := by decide +kernel
theorem dX6_number_67 : decode cX6_number 67 = .ok (.aload_n 0, 1) := by decide +kernel
theorem dX6_number_68 : decode cX6_number 68 = .ok (.getfield 114, 3) := by decide +kernel
theorem dX6_number_71 : decode cX6_number 71 = .ok (.ifCond .eq 5, 3) := by decide +kernel
theorem dX6_number_74 : decode cX6_number 74 = .ok (.iconst 0, 1) := by decide +kernel
theorem dX6_number_75 : decode cX6_number 75 = .ok (.ireturn, 1) := by decide +kernel
theorem dX6_number_76 : decode cX6_number 76 = .ok (.aload_n 0, 1) := by decide +kernel
theorem dX6_number_77 : decode cX6_number 77 = .ok (.dup, 1) := by decide +kernel
theorem dX6_number_78 : decode cX6_number 78 = .ok (.getfield 111, 3) := by decide +kernel
theorem dX6_number_81 : decode cX6_number 81 = .ok (.iconst 1, 1) := by decide +kernel
theorem dX6_number_82 : decode cX6_number 82 = .ok (.iadd, 1) := by decide +kernel
theorem dX6_number_83 : decode cX6_number 83 = .ok (.putfield 111, 3) := by decide +kernel
theorem dX6_number_86 : decode cX6_number 86 = .ok (.iload_n 3, 1) := by decide +kernel
theorem dX6_number_87 : decode cX6_number 87 = .ok (.ifCond .le 7, 3) := by decide +kernel
theorem dX6_number_90 : decode cX6_number 90 = .ok (.iconst 1, 1) := by decide +kernel
theorem dX6_number_91 : decode cX6_number 91 = .ok (.goto 4, 3) := by decide +kernel
theorem dX6_number_94 : decode cX6_number 94 = .ok (.iconst 0, 1) := by decide +kernel
theorem dX6_number_95 : decode cX6_number 95 = .ok (.istore 4, 2) := by decide +kernel
theorem dX6_number_97 : decode cX6_number 97 = .ok (.iload 4, 2) := by decide +kernel
theorem dX6_number_99 : decode cX6_number 99 = .ok (.ifCond .eq 84, 3) := by decide +kernel
theorem dX6_number_102 : decode cX6_number 102 = .ok (.aload_n 0, 1) := by decide +kernel
theorem dX6_number_103 : decode cX6_number 103 = .ok (.invokevirtual 118, 3) := by decide +kernel
theorem dX6_number_106 : decode cX6_number 106 = .ok (.bipush 48, 2) := by decide +kernel
theorem dX6_number_108 : decode cX6_number 108 = .ok (.bipush 57, 2) := by decide +kernel
theorem dX6_number_110 : decode cX6_number 110 = .ok (.invokestatic 26, 3) := by decide +kernel
theorem dX6_number_113 : decode cX6_number 113 = .ok (.ifCond .eq 23, 3) := by decide +kernel
theorem dX6_number_116 : decode cX6_number 116 = .ok (.bipush 10, 2) := by decide +kernel
theorem dX6_number_118 : decode cX6_number 118 = .ok (.iload_n 3, 1) := by decide +kernel
theorem dX6_number_119 : decode cX6_number 119 = .ok (.imul, 1) := by decide +kernel
theorem dX6_number_120 : decode cX6_number 120 = .ok (.aload_n 0, 1) := by decide +kernel
theorem dX6_number_121 : decode cX6_number 121 = .ok (.invokevirtual 118, 3) := by decide +kernel
theorem dX6_number_124 : decode cX6_number 124 = .ok (.iadd, 1) := by decide +kernel
theorem dX6_number_125 : decode cX6_number 125 = .ok (.bipush 48, 2) := by decide +kernel
theorem dX6_number_127 : decode cX6_number 127 = .ok (.isub, 1) := by decide +kernel
theorem dX6_number_128 : decode cX6_number 128 = .ok (.iload_n 2, 1) := by decide +kernel
theorem dX6_number_129 : decode cX6_number 129 = .ok (.if_icmp .gt 7, 3) := by decide +kernel
theorem dX6_number_132 : decode cX6_number 132 = .ok (.iconst 1, 1) := by decide +kernel
theorem dX6_number_133 : decode cX6_number 133 = .ok (.goto 4, 3) := by decide +kernel
theorem dX6_number_136 : decode cX6_number 136 = .ok (.iconst 0, 1) := by decide +kernel
theorem dX6_number_137 : decode cX6_number 137 = .ok (.istore 4, 2) := by decide +kernel
theorem dX6_number_139 : decode cX6_number 139 = .ok (.iload 4, 2) := by decide +kernel
theorem dX6_number_141 : decode cX6_number 141 = .ok (.ifCond .eq 18, 3) := by decide +kernel
theorem dX6_number_144 : decode cX6_number 144 = .ok (.bipush 10, 2) := by decide +kernel
theorem dX6_number_146 : decode cX6_number 146 = .ok (.iload_n 3, 1) := by decide +kernel
theorem dX6_number_147 : decode cX6_number 147 = .ok (.imul, 1) := by decide +kernel
theorem dX6_number_148 : decode cX6_number 148 = .ok (.aload_n 0, 1) := by decide +kernel
theorem dX6_number_149 : decode cX6_number 149 = .ok (.invokevirtual 118, 3) := by decide +kernel
theorem dX6_number_152 : decode cX6_number 152 = .ok (.iadd, 1) := by decide +kernel
theorem dX6_number_153 : decode cX6_number 153 = .ok (.bipush 48, 2) := by decide +kernel
theorem dX6_number_155 : decode cX6_number 155 = .ok (.isub, 1) := by decide +kernel
theorem dX6_number_156 : decode cX6_number 156 = .ok (.goto 4, 3) := by decide +kernel
theorem dX6_number_159 : decode cX6_number 159 = .ok (.iload_n 3, 1) := by decide +kernel
theorem dX6_number_160 : decode cX6_number 160 = .ok (.istore_n 3, 1) := by decide +kernel
theorem dX6_number_161 : decode cX6_number 161 = .ok (.aload_n 0, 1) := by decide +kernel
theorem dX6_number_162 : decode cX6_number 162 = .ok (.dup, 1) := by decide +kernel
theorem dX6_number_163 : decode cX6_number 163 = .ok (.getfield 111, 3) := by decide +kernel
theorem dX6_number_166 : decode cX6_number 166 = .ok (.iload 4, 2) := by decide +kernel
theorem dX6_number_168 : decode cX6_number 168 = .ok (.ifCond .eq 7, 3) := by decide +kernel
theorem dX6_number_171 : decode cX6_number 171 = .ok (.iconst 1, 1) := by decide +kernel
theorem dX6_number_172 : decode cX6_number 172 = .ok (.goto 4, 3) := by decide +kernel
theorem dX6_number_175 : decode cX6_number 175 = .ok (.iconst 0, 1) := by decide +kernel
theorem dX6_number_176 : decode cX6_number 176 = .ok (.iadd, 1) := by decide +kernel
theorem dX6_number_177 : decode cX6_number 177 = .ok (.putfield 111, 3) := by decide +kernel
theorem dX6_number_180 : decode cX6_number 180 = .ok (.goto (-83), 3) := by decide +kernel
theorem dX6_number_183 : decode cX6_number 183 = .ok (.iload_n 3, 1) := by decide +kernel
theorem dX6_number_184 : decode cX6_number 184 = .ok (.ireturn, 1) := by decide +kernel
