theorem dX4_bedToAsk_17 : decode cX4_bedToAsk 17 = .ok (.istore_n 2, 1) := by decide +kernel
theorem dX4_bedToAsk_18 : decode cX4_bedToAsk 18 = .ok (.iconst 1, 1) := by decide +kernel
theorem dX4_bedToAsk_19 : decode cX4_bedToAsk 19 = .ok (.istore_n 3, 1) := by decide +kernel
theorem dX4_bedToAsk_20 : decode cX4_bedToAsk 20 = .ok (.iload_n 3, 1) := by decide +kernel
theorem dX4_bedToAsk_21 : decode cX4_bedToAsk 21 = .ok (.bipush 41, 2) := by decide +kernel
theorem dX4_bedToAsk_23 : decode cX4_bedToAsk 23 = .ok (.if_icmp .ge 27, 3) := by decide +kernel
theorem dX4_bedToAsk_26 : decode cX4_bedToAsk 26 = .ok (.aload_n 0, 1) := by decide +kernel
theorem dX4_bedToAsk_27 : decode cX4_bedToAsk 27 = .ok (.iload_n 3, 1) := by decide +kernel
theorem dX4_bedToAsk_28 : decode cX4_bedToAsk 28 = .ok (.invokevirtual 61, 3) := by decide +kernel
theorem dX4_bedToAsk_31 : decode cX4_bedToAsk 31 = .ok (.istore 4, 2) := by decide +kernel
theorem dX4_bedToAsk_33 : decode cX4_bedToAsk 33 = .ok (.iload 4, 2) := by decide +kernel
theorem dX4_bedToAsk_35 : decode cX4_bedToAsk 35 = .ok (.iload_n 2, 1) := by decide +kernel
theorem dX4_bedToAsk_36 : decode cX4_bedToAsk 36 = .ok (.if_icmp .ge 8, 3) := by decide +kernel
theorem dX4_bedToAsk_39 : decode cX4_bedToAsk 39 = .ok (.iload_n 3, 1) := by decide +kernel
theorem dX4_bedToAsk_40 : decode cX4_bedToAsk 40 = .ok (.istore_n 1, 1) := by decide +kernel
theorem dX4_bedToAsk_41 : decode cX4_bedToAsk 41 = .ok (.iload 4, 2) := by decide +kernel
theorem dX4_bedToAsk_43 : decode cX4_bedToAsk 43 = .ok (.istore_n 2, 1) := by decide +kernel
theorem dX4_bedToAsk_44 : decode cX4_bedToAsk 44 = .ok (.iinc 3 1, 3) := by decide +kernel
theorem dX4_bedToAsk_47 : decode cX4_bedToAsk 47 = .ok (.goto (-27), 3) := by decide +kernel
theorem dX4_bedToAsk_50 : decode cX4_bedToAsk 50 = .ok (.iload_n 1, 1) := by decide +kernel
theorem dX4_bedToAsk_51 : decode cX4_bedToAsk 51 = .ok (.ireturn, 1) := by decide +kernel
set_option maxRecDepth 20000 in
theorem ggX4_mostLeft_J7_fill_53178 : GoodIn wsX4_mostLeft wsJ7_fill_53178 := goodIn_r _ [10] (by decide +kernel) (by decide +kernel)
set_option maxRecDepth 20000 in
theorem gX4_mostLeft_J7_fill_53178 : GoodIn wsX4_mostLeft (va_wsS RX4 64 yJ7_fill_53178 wsJ7_fill_53178) := goodIn_app (goodIn_of _ (by decide +kernel)) ggX4_mostLeft_J7_fill_53178
set_option maxRecDepth 20000 in
theorem ggX4_mostLeft_X4_pick : GoodIn wsX4_mostLeft wsX4_pick := goodIn_r _ [15, 2, 16, 17, 18, 19, 27, 28, 29, 30] (by decide +kernel) (by decide +kernel)
set_option maxRecDepth 20000 in
theorem gX4_mostLeft_X4_pick : GoodIn wsX4_mostLeft (wsV RX4 70 RX4 yX4_pick wsX4_pick) := goodIn_app (goodIn_of _ (by decide +kernel)) ggX4_mostLeft_X4_pick
set_option maxRecDepth 20000 in
theorem ggX4_mostLeft_X4_taleInBed : GoodIn wsX4_mostLeft wsX4_taleInBed := goodIn_r _ [23, 24, 25, 18, 26, 17, 19, 27, 28, 29, 30] (by decide +kernel) (by decide +kernel)
set_option maxRecDepth 20000 in
theorem gX4_mostLeft_X4_taleInBed : GoodIn wsX4_mostLeft (wsV RX4 50 RX4 yX4_taleInBed wsX4_taleInBed) := goodIn_app (goodIn_of _ (by decide +kernel)) ggX4_mostLeft_X4_taleInBed
set_option maxRecDepth 20000 in
theorem ggX4_mostLeft_X6_isTale : GoodIn wsX4_mostLeft wsX6_isTale := goodIn_r _ [26] (by decide +kernel) (by decide +kernel)
set_option maxRecDepth 20000 in
theorem gX4_mostLeft_X6_isTale_n57 : GoodIn wsX4_mostLeft (wsX6_isTale) := ggX4_mostLeft_X6_isTale
theorem dX4_mostLeft_0 : decode cX4_mostLeft 0 = .ok (.aload_n 0, 1) := by decide +kernel
theorem dX4_mostLeft_1 : decode cX4_mostLeft 1 = .ok (.getfield 18, 3) := by decide +kernel
theorem dX4_mostLeft_4 : decode cX4_mostLeft 4 = .ok (.iconst 0, 1) := by decide +kernel
theorem dX4_mostLeft_5 : decode cX4_mostLeft 5 = .ok (.invokestatic 64, 3) := by decide +kernel
theorem dX4_mostLeft_8 : decode cX4_mostLeft 8 = .ok (.iconst 0, 1) := by decide +kernel
theorem dX4_mostLeft_9 : decode cX4_mostLeft 9 = .ok (.istore_n 2, 1) := by decide +kernel
theorem dX4_mostLeft_10 : decode cX4_mostLeft 10 = .ok (.iconst 0, 1) := by decide +kernel
theorem dX4_mostLeft_11 : decode cX4_mostLeft 11 = .ok (.istore_n 3, 1) := by decide +kernel
theorem dX4_mostLeft_12 : decode cX4_mostLeft 12 = .ok (.iload_n 3, 1) := by decide +kernel
theorem dX4_mostLeft_13 : decode cX4_mostLeft 13 = .ok (.aload_n 0, 1) := by decide +kernel
theorem dX4_mostLeft_14 : decode cX4_mostLeft 14 = .ok (.getfield 25, 3) := by decide +kernel
theorem dX4_mostLeft_17 : decode cX4_mostLeft 17 = .ok (.if_icmp .ge 64, 3) := by decide +kernel
theorem dX4_mostLeft_20 : decode cX4_mostLeft 20 = .ok (.aload_n 0, 1) := by decide +kernel
theorem dX4_mostLeft_21 : decode cX4_mostLeft 21 = .ok (.iload_n 3, 1) := by decide +kernel
theorem dX4_mostLeft_22 : decode cX4_mostLeft 22 = .ok (.invokevirtual 70, 3) := by decide +kernel
theorem dX4_mostLeft_25 : decode cX4_mostLeft 25 = .ok (.istore 4, 2) := by decide +kernel
theorem dX4_mostLeft_27 : decode cX4_mostLeft 27 = .ok (.aload_n 0, 1) := by decide +kernel
theorem dX4_mostLeft_28 : decode cX4_mostLeft 28 = .ok (.iload 4, 2) := by decide +kernel
theorem dX4_mostLeft_30 : decode cX4_mostLeft 30 = .ok (.bipush 10, 2) := by decide +kernel
theorem dX4_mostLeft_32 : decode cX4_mostLeft 32 = .ok (.idiv, 1) := by decide +kernel
theorem dX4_mostLeft_33 : decode cX4_mostLeft 33 = .ok (.iload 4, 2) := by decide +kernel
theorem dX4_mostLeft_35 : decode cX4_mostLeft 35 = .ok (.bipush 10, 2) := by decide +kernel
theorem dX4_mostLeft_37 : decode cX4_mostLeft 37 = .ok (.irem, 1) := by decide +kernel
theorem dX4_mostLeft_38 : decode cX4_mostLeft 38 = .ok (.iload_n 1, 1) := by decide +kernel
theorem dX4_mostLeft_39 : decode cX4_mostLeft 39 = .ok (.invokevirtual 50, 3) := by decide +kernel
theorem dX4_mostLeft_42 : decode cX4_mostLeft 42 = .ok (.istore 5, 2) := by decide +kernel
theorem dX4_mostLeft_44 : decode cX4_mostLeft 44 = .ok (.iload 5, 2) := by decide +kernel
theorem dX4_mostLeft_46 : decode cX4_mostLeft 46 = .ok (.invokestatic 57, 3) := by decide +kernel
theorem dX4_mostLeft_49 : decode cX4_mostLeft 49 = .ok (.ifCond .eq 26, 3) := by decide +kernel
theorem dX4_mostLeft_52 : decode cX4_mostLeft 52 = .ok (.aload_n 0, 1) := by decide +kernel
theorem dX4_mostLeft_53 : decode cX4_mostLeft 53 = .ok (.getfield 18, 3) := by decide +kernel
theorem dX4_mostLeft_56 : decode cX4_mostLeft 56 = .ok (.iload 5, 2) := by decide +kernel
theorem dX4_mostLeft_58 : decode cX4_mostLeft 58 = .ok (.dup2, 1) := by decide +kernel
theorem dX4_mostLeft_59 : decode cX4_mostLeft 59 = .ok (.iaload, 1) := by decide +kernel
theorem dX4_mostLeft_60 : decode cX4_mostLeft 60 = .ok (.iconst 1, 1) := by decide +kernel
theorem dX4_mostLeft_61 : decode cX4_mostLeft 61 = .ok (.iadd, 1) := by decide +kernel
theorem dX4_mostLeft_62 : decode cX4_mostLeft 62 = .ok (.iastore, 1) := by decide +kernel
theorem dX4_mostLeft_63 : decode cX4_mostLeft 63 = .ok (.iload_n 2, 1) := by decide +kernel
theorem dX4_mostLeft_64 : decode cX4_mostLeft 64 = .ok (.aload_n 0, 1) := by decide +kernel
theorem dX4_mostLeft_65 : decode cX4_mostLeft 65 = .ok (.getfield 18, 3) := by decide +kernel
theorem dX4_mostLeft_68 : decode cX4_mostLeft 68 = .ok (.iload 5, 2) := by decide +kernel
theorem dX4_mostLeft_70 : decode cX4_mostLeft 70 = .ok (.iaload, 1) := by decide +kernel
theorem dX4_mostLeft_71 : decode cX4_mostLeft 71 = .ok (.invokestatic 73, 3) := by decide +kernel
theorem dX4_mostLeft_74 : decode cX4_mostLeft 74 = .ok (.istore_n 2, 1) := by decide +kernel
theorem dX4_mostLeft_75 : decode cX4_mostLeft 75 = .ok (.iinc 3 1, 3) := by decide +kernel
theorem dX4_mostLeft_78 : decode cX4_mostLeft 78 = .ok (.goto (-66), 3) := by decide +kernel
theorem dX4_mostLeft_81 : decode cX4_mostLeft 81 = .ok (.iload_n 2, 1) := by decide +kernel
theorem dX4_mostLeft_82 : decode cX4_mostLeft 82 = .ok (.ireturn, 1) := by decide +kernel
theorem dX5_init_0 : decode cX5_init 0 = .ok (.aload_n 0, 1) := by decide +kernel
theorem dX5_init_1 : decode cX5_init 1 = .ok (.invokespecial 3, 3) := by decide +kernel
theorem dX5_init_4 : decode cX5_init 4 = .ok (.aload_n 0, 1) := by decide +kernel
theorem dX5_init_5 : decode cX5_init 5 = .ok (.bipush 121, 2) := by decide +kernel
theorem dX5_init_7 : decode cX5_init 7 = .ok (.newarray .int, 2) := by decide +kernel
theorem dX5_init_9 : decode cX5_init 9 = .ok (.putfield 9, 3) := by decide +kernel
theorem dX5_init_12 : decode cX5_init 12 = .ok (.aload_n 0, 1) := by decide +kernel
theorem dX5_init_13 : decode cX5_init 13 = .ok (.bipush 11, 2) := by decide +kernel
theorem dX5_init_15 : decode cX5_init 15 = .ok (.newarray .int, 2) := by decide +kernel
theorem dX5_init_17 : decode cX5_init 17 = .ok (.putfield 15, 3) := by decide +kernel
theorem dX5_init_20 : decode cX5_init 20 = .ok (.return_, 1) := by decide +kernel
set_option maxRecDepth 20000 in
theorem ggX5_measure_X1_longBetween : GoodIn wsX5_measure wsX1_longBetween := goodIn_r _ [6, 7, 8, 9, 10, 23, 24, 25, 26, 27, 28, 29, 30, 31, 32, 33, 34] (by decide +kernel) (by decide +kernel)
set_option maxRecDepth 20000 in
theorem gX5_measure_X1_longBetween : GoodIn wsX5_measure (wsV RX5 18 RX1 yX1_longBetween wsX1_longBetween) := goodIn_app (goodIn_of _ (by decide +kernel)) ggX5_measure_X1_longBetween
set_option maxRecDepth 20000 in
theorem ggX5_measure_X5_shortenPast : GoodIn wsX5_measure wsX5_shortenPast := goodIn_r _ [15, 1, 16, 17, 18, 14, 19, 8, 9, 10, 20, 21, 22] (by decide +kernel) (by decide +kernel)
set_option maxRecDepth 20000 in
theorem gX5_measure_X5_shortenPast : GoodIn wsX5_measure (wsV RX5 24 RX5 yX5_shortenPast wsX5_shortenPast) := goodIn_app (goodIn_of _ (by decide +kernel)) ggX5_measure_X5_shortenPast
theorem dX5_measure_0 : decode cX5_measure 0 = .ok (.iconst 0, 1) := by decide +kernel
theorem dX5_measure_1 : decode cX5_measure 1 = .ok (.istore_n 2, 1) := by decide +kernel
theorem dX5_measure_2 : decode cX5_measure 2 = .ok (.iload_n 2, 1) := by decide +kernel
theorem dX5_measure_3 : decode cX5_measure 3 = .ok (.bipush 11, 2) := by decide +kernel
theorem dX5_measure_5 : decode cX5_measure 5 = .ok (.if_icmp .ge 67, 3) := by decide +kernel
theorem dX5_measure_8 : decode cX5_measure 8 = .ok (.iconst 0, 1) := by decide +kernel
theorem dX5_measure_9 : decode cX5_measure 9 = .ok (.istore_n 3, 1) := by decide +kernel
theorem dX5_measure_10 : decode cX5_measure 10 = .ok (.iload_n 3, 1) := by decide +kernel
theorem dX5_measure_11 : decode cX5_measure 11 = .ok (.bipush 11, 2) := by decide +kernel
theorem dX5_measure_13 : decode cX5_measure 13 = .ok (.if_icmp .ge 41, 3) := by decide +kernel
theorem dX5_measure_16 : decode cX5_measure 16 = .ok (.aload_n 1, 1) := by decide +kernel
theorem dX5_measure_17 : decode cX5_measure 17 = .ok (.iload_n 2, 1) := by decide +kernel
theorem dX5_measure_18 : decode cX5_measure 18 = .ok (.iload_n 3, 1) := by decide +kernel
theorem dX5_measure_19 : decode cX5_measure 19 = .ok (.invokevirtual 18, 3) := by decide +kernel
theorem dX5_measure_22 : decode cX5_measure 22 = .ok (.istore 4, 2) := by decide +kernel
theorem dX5_measure_24 : decode cX5_measure 24 = .ok (.aload_n 0, 1) := by decide +kernel
theorem dX5_measure_25 : decode cX5_measure 25 = .ok (.getfield 9, 3) := by decide +kernel
theorem dX5_measure_28 : decode cX5_measure 28 = .ok (.iload_n 2, 1) := by decide +kernel
theorem dX5_measure_29 : decode cX5_measure 29 = .ok (.bipush 11, 2) := by decide +kernel
theorem dX5_measure_31 : decode cX5_measure 31 = .ok (.imul, 1) := by decide +kernel
theorem dX5_measure_32 : decode cX5_measure 32 = .ok (.iload_n 3, 1) := by decide +kernel
theorem dX5_measure_33 : decode cX5_measure 33 = .ok (.iadd, 1) := by decide +kernel
theorem dX5_measure_34 : decode cX5_measure 34 = .ok (.iload 4, 2) := by decide +kernel
theorem dX5_measure_36 : decode cX5_measure 36 = .ok (.ifCond .le 8, 3) := by decide +kernel
theorem dX5_measure_39 : decode cX5_measure 39 = .ok (.iload 4, 2) := by decide +kernel
theorem dX5_measure_41 : decode cX5_measure 41 = .ok (.goto 6, 3) := by decide +kernel
theorem dX5_measure_44 : decode cX5_measure 44 = .ok (.sipush 1000, 3) := by decide +kernel
theorem dX5_measure_47 : decode cX5_measure 47 = .ok (.iastore, 1) := by decide +kernel
theorem dX5_measure_48 : decode cX5_measure 48 = .ok (.iinc 3 1, 3) := by decide +kernel
theorem dX5_measure_51 : decode cX5_measure 51 = .ok (.goto (-41), 3) := by decide +kernel
theorem dX5_measure_54 : decode cX5_measure 54 = .ok (.aload_n 0, 1) := by decide +kernel
theorem dX5_measure_55 : decode cX5_measure 55 = .ok (.getfield 9, 3) := by decide +kernel
theorem dX5_measure_58 : decode cX5_measure 58 = .ok (.iload_n 2, 1) := by decide +kernel
theorem dX5_measure_59 : decode cX5_measure 59 = .ok (.bipush 11, 2) := by decide +kernel
theorem dX5_measure_61 : decode cX5_measure 61 = .ok (.imul, 1) := by decide +kernel
theorem dX5_measure_62 : decode cX5_measure 62 = .ok (.iload_n 2, 1) := by decide +kernel
theorem dX5_measure_63 : decode cX5_measure 63 = .ok (.iadd, 1) := by decide +kernel
theorem dX5_measure_64 : decode cX5_measure 64 = .ok (.iconst 0, 1) := by decide +kernel
theorem dX5_measure_65 : decode cX5_measure 65 = .ok (.iastore, 1) := by decide +kernel
theorem dX5_measure_66 : decode cX5_measure 66 = .ok (.iinc 2 1, 3) := by decide +kernel
theorem dX5_measure_69 : decode cX5_measure 69 = .ok (.goto (-67), 3) := by decide +kernel
theorem dX5_measure_72 : decode cX5_measure 72 = .ok (.iconst 0, 1) := by decide +kernel
theorem dX5_measure_73 : decode cX5_measure 73 = .ok (.istore_n 2, 1) := by decide +kernel
theorem dX5_measure_74 : decode cX5_measure 74 = .ok (.iload_n 2, 1) := by decide +kernel
theorem dX5_measure_75 : decode cX5_measure 75 = .ok (.bipush 11, 2) := by decide +kernel
theorem dX5_measure_77 : decode cX5_measure 77 = .ok (.if_icmp .ge 29, 3) := by decide +kernel
theorem dX5_measure_80 : decode cX5_measure 80 = .ok (.iconst 0, 1) := by decide +kernel
theorem dX5_measure_81 : decode cX5_measure 81 = .ok (.istore_n 3, 1) := by decide +kernel
theorem dX5_measure_82 : decode cX5_measure 82 = .ok (.iload_n 3, 1) := by decide +kernel
theorem dX5_measure_83 : decode cX5_measure 83 = .ok (.bipush 11, 2) := by decide +kernel
theorem dX5_measure_85 : decode cX5_measure 85 = .ok (.if_icmp .ge 15, 3) := by decide +kernel
theorem dX5_measure_88 : decode cX5_measure 88 = .ok (.aload_n 0, 1) := by decide +kernel
theorem dX5_measure_89 : decode cX5_measure 89 = .ok (.iload_n 2, 1) := by decide +kernel
theorem dX5_measure_90 : decode cX5_measure 90 = .ok (.iload_n 3, 1) := by decide +kernel
theorem dX5_measure_91 : decode cX5_measure 91 = .ok (.invokevirtual 24, 3) := by decide +kernel
theorem dX5_measure_94 : decode cX5_measure 94 = .ok (.iinc 3 1, 3) := by decide +kernel
theorem dX5_measure_97 : decode cX5_measure 97 = .ok (.goto (-15), 3) := by decide +kernel
theorem dX5_measure_100 : decode cX5_measure 100 = .ok (.iinc 2 1, 3) := by decide +kernel
theorem dX5_measure_103 : decode cX5_measure 103 = .ok (.goto (-29), 3) := by decide +kernel
theorem dX5_measure_106 : decode cX5_measure 106 = .ok (.return_, 1) := by decide +kernel
set_option maxRecDepth 20000 in
theorem ggX5_shortenPast_X5_leastWay : GoodIn wsX5_shortenPast wsX5_leastWay := goodIn_r _ [6, 1, 7, 8, 9, 10, 11, 12] (by decide +kernel) (by decide +kernel)
set_option maxRecDepth 20000 in
theorem gX5_shortenPast_X5_leastWay : GoodIn wsX5_shortenPast (wsV RX5 28 RX5 yX5_leastWay wsX5_leastWay) := goodIn_app (goodIn_of _ (by decide +kernel)) ggX5_shortenPast_X5_leastWay
set_option maxRecDepth 20000 in
theorem ggX5_shortenPast_X6_isPlace : GoodIn wsX5_shortenPast wsX6_isPlace := goodIn_r _ [9] (by decide +kernel) (by decide +kernel)
set_option maxRecDepth 20000 in
theorem gX5_shortenPast_X6_isPlace_n31 : GoodIn wsX5_shortenPast (wsX6_isPlace) := ggX5_shortenPast_X6_isPlace
theorem dX5_shortenPast_0 : decode cX5_shortenPast 0 = .ok (.iconst 0, 1) := by decide +kernel
theorem dX5_shortenPast_1 : decode cX5_shortenPast 1 = .ok (.istore_n 3, 1) := by decide +kernel
theorem dX5_shortenPast_2 : decode cX5_shortenPast 2 = .ok (.iload_n 3, 1) := by decide +kernel
theorem dX5_shortenPast_3 : decode cX5_shortenPast 3 = .ok (.bipush 11, 2) := by decide +kernel
theorem dX5_shortenPast_5 : decode cX5_shortenPast 5 = .ok (.if_icmp .ge 55, 3) := by decide +kernel
theorem dX5_shortenPast_8 : decode cX5_shortenPast 8 = .ok (.aload_n 0, 1) := by decide +kernel
theorem dX5_shortenPast_9 : decode cX5_shortenPast 9 = .ok (.iload_n 2, 1) := by decide +kernel
theorem dX5_shortenPast_10 : decode cX5_shortenPast 10 = .ok (.iload_n 1, 1) := by decide +kernel
theorem dX5_shortenPast_11 : decode cX5_shortenPast 11 = .ok (.invokevirtual 28, 3) := by decide +kernel
theorem dX5_shortenPast_14 : decode cX5_shortenPast 14 = .ok (.aload_n 0, 1) := by decide +kernel
theorem dX5_shortenPast_15 : decode cX5_shortenPast 15 = .ok (.iload_n 1, 1) := by decide +kernel
theorem dX5_shortenPast_16 : decode cX5_shortenPast 16 = .ok (.iload_n 3, 1) := by decide +kernel
theorem dX5_shortenPast_17 : decode cX5_shortenPast 17 = .ok (.invokevirtual 28, 3) := by decide +kernel
theorem dX5_shortenPast_20 : decode cX5_shortenPast 20 = .ok (.iadd, 1) := by decide +kernel
theorem dX5_shortenPast_21 : decode cX5_shortenPast 21 = .ok (.istore 4, 2) := by decide +kernel
theorem dX5_shortenPast_23 : decode cX5_shortenPast 23 = .ok (.iload 4, 2) := by decide +kernel
theorem dX5_shortenPast_25 : decode cX5_shortenPast 25 = .ok (.aload_n 0, 1) := by decide +kernel
theorem dX5_shortenPast_26 : decode cX5_shortenPast 26 = .ok (.iload_n 2, 1) := by decide +kernel
theorem dX5_shortenPast_27 : decode cX5_shortenPast 27 = .ok (.iload_n 3, 1) := by decide +kernel
theorem dX5_shortenPast_28 : decode cX5_shortenPast 28 = .ok (.invokevirtual 28, 3) := by decide +kernel
theorem dX5_shortenPast_31 : decode cX5_shortenPast 31 = .ok (.if_icmp .ge 23, 3) := by decide +kernel
theorem dX5_shortenPast_34 : decode cX5_shortenPast 34 = .ok (.iload_n 2, 1) := by decide +kernel
theorem dX5_shortenPast_35 : decode cX5_shortenPast 35 = .ok (.invokestatic 31, 3) := by decide +kernel
theorem dX5_shortenPast_38 : decode cX5_shortenPast 38 = .ok (.ifCond .eq 16, 3) := by decide +kernel
theorem dX5_shortenPast_41 : decode cX5_shortenPast 41 = .ok (.aload_n 0, 1) := by decide +kernel
theorem dX5_shortenPast_42 : decode cX5_shortenPast 42 = .ok (.getfield 9, 3) := by decide +kernel
theorem dX5_shortenPast_45 : decode cX5_shortenPast 45 = .ok (.iload_n 2, 1) := by decide +kernel
theorem dX5_shortenPast_46 : decode cX5_shortenPast 46 = .ok (.bipush 11, 2) := by decide +kernel
theorem dX5_shortenPast_48 : decode cX5_shortenPast 48 = .ok (.imul, 1) := by decide +kernel
theorem dX5_shortenPast_49 : decode cX5_shortenPast 49 = .ok (.iload_n 3, 1) := by decide +kernel
theorem dX5_shortenPast_50 : decode cX5_shortenPast 50 = .ok (.iadd, 1) := by decide +kernel
theorem dX5_shortenPast_51 : decode cX5_shortenPast 51 = .ok (.iload 4, 2) := by decide +kernel
theorem dX5_shortenPast_53 : decode cX5_shortenPast 53 = .ok (.iastore, 1) := by decide +kernel
theorem dX5_shortenPast_54 : decode cX5_shortenPast 54 = .ok (.iinc 3 1, 3) := by decide +kernel
theorem dX5_shortenPast_57 : decode cX5_shortenPast 57 = .ok (.goto (-55), 3) := by decide +kernel
theorem dX5_shortenPast_60 : decode cX5_shortenPast 60 = .ok (.return_, 1) := by decide +kernel
set_option maxRecDepth 20000 in
theorem ggX5_leastWay_X6_isPlace : GoodIn wsX5_leastWay wsX6_isPlace := goodIn_r _ [4] (by decide +kernel) (by decide +kernel)
set_option maxRecDepth 20000 in
theorem gX5_leastWay_X6_isPlace_n31 : GoodIn wsX5_leastWay (wsX6_isPlace) := ggX5_leastWay_X6_isPlace
theorem dX5_leastWay_0 : decode cX5_leastWay 0 = .ok (.iload_n 1, 1) := by decide +kernel
theorem dX5_leastWay_1 : decode cX5_leastWay 1 = .ok (.invokestatic 31, 3) := by decide +kernel
theorem dX5_leastWay_4 : decode cX5_leastWay 4 = .ok (.ifCond .eq 24, 3) := by decide +kernel
theorem dX5_leastWay_7 : decode cX5_leastWay 7 = .ok (.iload_n 2, 1) := by decide +kernel
theorem dX5_leastWay_8 : decode cX5_leastWay 8 = .ok (.invokestatic 31, 3) := by decide +kernel
theorem dX5_leastWay_11 : decode cX5_leastWay 11 = .ok (.ifCond .eq 17, 3) := by decide +kernel
theorem dX5_leastWay_14 : decode cX5_leastWay 14 = .ok (.aload_n 0, 1) := by decide +kernel
theorem dX5_leastWay_15 : decode cX5_leastWay 15 = .ok (.getfield 9, 3) := by decide +kernel
theorem dX5_leastWay_18 : decode cX5_leastWay 18 = .ok (.iload_n 1, 1) := by decide +kernel
theorem dX5_leastWay_19 : decode cX5_leastWay 19 = .ok (.bipush 11, 2) := by decide +kernel
theorem dX5_leastWay_21 : decode cX5_leastWay 21 = .ok (.imul, 1) := by decide +kernel
theorem dX5_leastWay_22 : decode cX5_leastWay 22 = .ok (.iload_n 2, 1) := by decide +kernel
theorem dX5_leastWay_23 : decode cX5_leastWay 23 = .ok (.iadd, 1) := by decide +kernel
theorem dX5_leastWay_24 : decode cX5_leastWay 24 = .ok (.iaload, 1) := by decide +kernel
theorem dX5_leastWay_25 : decode cX5_leastWay 25 = .ok (.goto 6, 3) := by decide +kernel
theorem dX5_leastWay_28 : decode cX5_leastWay 28 = .ok (.sipush 1000, 3) := by decide +kernel
theorem dX5_leastWay_31 : decode cX5_leastWay 31 = .ok (.ireturn, 1) := by decide +kernel
set_option maxRecDepth 20000 in
theorem ggX5_howFar_X5_leastWay : GoodIn wsX5_howFar wsX5_leastWay := goodIn_r _ [5, 6, 7, 8, 9, 10, 11, 12] (by decide +kernel) (by decide +kernel)
set_option maxRecDepth 20000 in
theorem gX5_howFar_X5_leastWay : GoodIn wsX5_howFar (wsV RX5 28 RX5 yX5_leastWay wsX5_leastWay) := goodIn_app (goodIn_of _ (by decide +kernel)) ggX5_howFar_X5_leastWay
theorem dX5_howFar_0 : decode cX5_howFar 0 = .ok (.aload_n 0, 1) := by decide +kernel
theorem dX5_howFar_1 : decode cX5_howFar 1 = .ok (.iload_n 1, 1) := by decide +kernel
theorem dX5_howFar_2 : decode cX5_howFar 2 = .ok (.iload_n 2, 1) := by decide +kernel
theorem dX5_howFar_3 : decode cX5_howFar 3 = .ok (.invokevirtual 28, 3) := by decide +kernel
theorem dX5_howFar_6 : decode cX5_howFar 6 = .ok (.istore_n 3, 1) := by decide +kernel
theorem dX5_howFar_7 : decode cX5_howFar 7 = .ok (.iload_n 3, 1) := by decide +kernel
theorem dX5_howFar_8 : decode cX5_howFar 8 = .ok (.sipush 1000, 3) := by decide +kernel
theorem dX5_howFar_11 : decode cX5_howFar 11 = .ok (.if_icmp .ge 7, 3) := by decide +kernel
theorem dX5_howFar_14 : decode cX5_howFar 14 = .ok (.iload_n 3, 1) := by decide +kernel
theorem dX5_howFar_15 : decode cX5_howFar 15 = .ok (.goto 5, 3) := by decide +kernel
theorem dX5_howFar_18 : decode cX5_howFar 18 = .ok (.bipush (-6), 2) := by decide +kernel
theorem dX5_howFar_20 : decode cX5_howFar 20 = .ok (.ireturn, 1) := by decide +kernel
set_option maxRecDepth 20000 in
theorem ggX5_nextPlace_X5_howFar : GoodIn wsX5_nextPlace wsX5_howFar := goodIn_r _ [5, 6, 7, 8, 4, 9, 10, 11, 12, 13, 20, 21, 22] (by decide +kernel) (by decide +kernel)
set_option maxRecDepth 20000 in
theorem gX5_nextPlace_X5_howFar : GoodIn wsX5_nextPlace (wsV RX5 35 RX5 yX5_howFar wsX5_howFar) := goodIn_app (goodIn_of _ (by decide +kernel)) ggX5_nextPlace_X5_howFar
set_option maxRecDepth 20000 in
theorem ggX5_nextPlace_X1_longBetween : GoodIn wsX5_nextPlace wsX1_longBetween := goodIn_r _ [18, 19, 11, 12, 13, 23, 24, 25, 26, 27, 28, 29, 30, 31, 32, 33, 34] (by decide +kernel) (by decide +kernel)
set_option maxRecDepth 20000 in
theorem gX5_nextPlace_X1_longBetween : GoodIn wsX5_nextPlace (wsV RX5 18 RX1 yX1_longBetween wsX1_longBetween) := goodIn_app (goodIn_of _ (by decide +kernel)) ggX5_nextPlace_X1_longBetween
set_option maxRecDepth 20000 in
theorem ggX5_nextPlace_X5_leastWay : GoodIn wsX5_nextPlace wsX5_leastWay := goodIn_r _ [9, 10, 11, 12, 13, 20, 21, 22] (by decide +kernel) (by decide +kernel)
set_option maxRecDepth 20000 in
theorem gX5_nextPlace_X5_leastWay : GoodIn wsX5_nextPlace (wsV RX5 28 RX5 yX5_leastWay wsX5_leastWay) := goodIn_app (goodIn_of _ (by decide +kernel)) ggX5_nextPlace_X5_leastWay
theorem dX5_nextPlace_0 : decode cX5_nextPlace 0 = .ok (.aload_n 0, 1) := by decide +kernel
theorem dX5_nextPlace_1 : decode cX5_nextPlace 1 = .ok (.iload_n 2, 1) := by decide +kernel
theorem dX5_nextPlace_2 : decode cX5_nextPlace 2 = .ok (.iload_n 3, 1) := by decide +kernel
theorem dX5_nextPlace_3 : decode cX5_nextPlace 3 = .ok (.invokevirtual 35, 3) := by decide +kernel
theorem dX5_nextPlace_6 : decode cX5_nextPlace 6 = .ok (.istore 4, 2) := by decide +kernel
theorem dX5_nextPlace_8 : decode cX5_nextPlace 8 = .ok (.iload 4, 2) := by decide +kernel
theorem dX5_nextPlace_10 : decode cX5_nextPlace 10 = .ok (.bipush (-6), 2) := by decide +kernel
theorem dX5_nextPlace_12 : decode cX5_nextPlace 12 = .ok (.if_icmp .eq 8, 3) := by decide +kernel
theorem dX5_nextPlace_15 : decode cX5_nextPlace 15 = .ok (.iload_n 2, 1) := by decide +kernel
theorem dX5_nextPlace_16 : decode cX5_nextPlace 16 = .ok (.iload_n 3, 1) := by decide +kernel
theorem dX5_nextPlace_17 : decode cX5_nextPlace 17 = .ok (.if_icmp .ne 6, 3) := by decide +kernel
theorem dX5_nextPlace_20 : decode cX5_nextPlace 20 = .ok (.bipush (-6), 2) := by decide +kernel
theorem dX5_nextPlace_22 : decode cX5_nextPlace 22 = .ok (.ireturn, 1) := by decide +kernel
theorem dX5_nextPlace_23 : decode cX5_nextPlace 23 = .ok (.iconst 0, 1) := by decide +kernel
theorem dX5_nextPlace_24 : decode cX5_nextPlace 24 = .ok (.istore 5, 2) := by decide +kernel
theorem dX5_nextPlace_26 : decode cX5_nextPlace 26 = .ok (.iload 5, 2) := by decide +kernel
theorem dX5_nextPlace_28 : decode cX5_nextPlace 28 = .ok (.bipush 11, 2) := by decide +kernel
theorem dX5_nextPlace_30 : decode cX5_nextPlace 30 = .ok (.if_icmp .ge 41, 3) := by decide +kernel
theorem dX5_nextPlace_33 : decode cX5_nextPlace 33 = .ok (.aload_n 1, 1) := by decide +kernel
theorem dX5_nextPlace_34 : decode cX5_nextPlace 34 = .ok (.iload_n 2, 1) := by decide +kernel
theorem dX5_nextPlace_35 : decode cX5_nextPlace 35 = .ok (.iload 5, 2) := by decide +kernel
theorem dX5_nextPlace_37 : decode cX5_nextPlace 37 = .ok (.invokevirtual 18, 3) := by decide +kernel
theorem dX5_nextPlace_40 : decode cX5_nextPlace 40 = .ok (.istore 6, 2) := by decide +kernel
theorem dX5_nextPlace_42 : decode cX5_nextPlace 42 = .ok (.iload 6, 2) := by decide +kernel
theorem dX5_nextPlace_44 : decode cX5_nextPlace 44 = .ok (.ifCond .le 21, 3) := by decide +kernel
theorem dX5_nextPlace_47 : decode cX5_nextPlace 47 = .ok (.iload 6, 2) := by decide +kernel
theorem dX5_nextPlace_49 : decode cX5_nextPlace 49 = .ok (.aload_n 0, 1) := by decide +kernel
theorem dX5_nextPlace_50 : decode cX5_nextPlace 50 = .ok (.iload 5, 2) := by decide +kernel
theorem dX5_nextPlace_52 : decode cX5_nextPlace 52 = .ok (.iload_n 3, 1) := by decide +kernel
theorem dX5_nextPlace_53 : decode cX5_nextPlace 53 = .ok (.invokevirtual 28, 3) := by decide +kernel
theorem dX5_nextPlace_56 : decode cX5_nextPlace 56 = .ok (.iadd, 1) := by decide +kernel
theorem dX5_nextPlace_57 : decode cX5_nextPlace 57 = .ok (.iload 4, 2) := by decide +kernel
theorem dX5_nextPlace_59 : decode cX5_nextPlace 59 = .ok (.if_icmp .ne 6, 3) := by decide +kernel
theorem dX5_nextPlace_62 : decode cX5_nextPlace 62 = .ok (.iload 5, 2) := by decide +kernel
theorem dX5_nextPlace_64 : decode cX5_nextPlace 64 = .ok (.ireturn, 1) := by decide +kernel
theorem dX5_nextPlace_65 : decode cX5_nextPlace 65 = .ok (.iinc 5 1, 3) := by decide +kernel
theorem dX5_nextPlace_68 : decode cX5_nextPlace 68 = .ok (.goto (-42), 3) := by decide +kernel
theorem dX5_nextPlace_71 : decode cX5_nextPlace 71 = .ok (.bipush (-6), 2) := by decide +kernel
theorem dX5_nextPlace_73 : decode cX5_nextPlace 73 = .ok (.ireturn, 1) := by decide +kernel
set_option maxRecDepth 20000 in
theorem ggX5_bestRound_X5_measure : GoodIn wsX5_bestRound wsX5_measure := goodIn_r _ [7, 8, 9, 10, 11, 12, 13, 14, 15, 16, 17, 18, 19, 20, 6, 21, 22, 23, 24, 25, 69, 70, 71, 72, 73, 74, 75, 76, 77, 78, 79, 80, 81, 82, 83] (by decide +kernel) (by decide +kernel)
set_option maxRecDepth 20000 in
theorem gX5_bestRound_X5_measure : GoodIn wsX5_bestRound (wsV RX5 38 RX5 yX5_measure wsX5_measure) := goodIn_app (goodIn_of _ (by decide +kernel)) ggX5_bestRound_X5_measure
set_option maxRecDepth 20000 in
theorem ggX5_bestRound_J7_fill_53178 : GoodIn wsX5_bestRound wsJ7_fill_53178 := goodIn_r _ [29] (by decide +kernel) (by decide +kernel)
set_option maxRecDepth 20000 in
theorem gX5_bestRound_J7_fill_53178 : GoodIn wsX5_bestRound (va_wsS RX5 45 yJ7_fill_53178 wsJ7_fill_53178) := goodIn_app (goodIn_of _ (by decide +kernel)) ggX5_bestRound_J7_fill_53178
set_option maxRecDepth 20000 in
theorem ggX5_bestRound_X5_leastWay : GoodIn wsX5_bestRound wsX5_leastWay := goodIn_r _ [25, 8, 15, 16, 17, 69, 70, 71] (by decide +kernel) (by decide +kernel)
set_option maxRecDepth 20000 in
theorem gX5_bestRound_X5_leastWay : GoodIn wsX5_bestRound (wsV RX5 28 RX5 yX5_leastWay wsX5_leastWay) := goodIn_app (goodIn_of _ (by decide +kernel)) ggX5_bestRound_X5_leastWay
set_option maxRecDepth 20000 in
theorem ggX5_bestRound_X5_warm : GoodIn wsX5_bestRound wsX5_warm := goodIn_r _ [33, 34, 35, 36, 37, 1, 38, 39, 40, 12, 41, 42, 43, 16, 44, 45, 46, 47, 48, 49, 50, 51, 52, 6, 53, 54, 55, 69, 70, 71, 72, 73, 74, 75, 76, 77, 78, 79, 80, 81, 82, 83] (by decide +kernel) (by decide +kernel)
set_option maxRecDepth 20000 in
theorem gX5_bestRound_X5_warm : GoodIn wsX5_bestRound (wsV RX5 51 RX5 yX5_warm wsX5_warm) := goodIn_app (goodIn_of _ (by decide +kernel)) ggX5_bestRound_X5_warm
set_option maxRecDepth 20000 in
theorem ggX5_bestRound_X5_goOn : GoodIn wsX5_bestRound wsX5_goOn := goodIn_r _ [59, 50, 51, 52, 6, 53, 1, 54, 16, 55, 43, 44, 60, 61, 22, 23, 24, 25, 8, 15, 17, 30, 31, 32, 33, 34, 35, 36, 37, 38, 39, 40, 12, 41, 42, 45, 46, 47, 48, 49, 69, 70, 71, 72, 73, 74, 75, 76, 77, 78, 79, 80, 81, 82, 83] (by decide +kernel) (by decide +kernel)
set_option maxRecDepth 20000 in
theorem gX5_bestRound_X5_goOn : GoodIn wsX5_bestRound (wsV RX5 55 RX5 yX5_goOn wsX5_goOn) := goodIn_app (goodIn_of _ (by decide +kernel)) ggX5_bestRound_X5_goOn
set_option maxRecDepth 20000 in
theorem ggX5_bestRound_J6_bitCount_0f7a4 : GoodIn wsX5_bestRound wsJ6_bitCount_0f7a4 := goodIn_r _ [65, 66, 67, 68] (by decide +kernel) (by decide +kernel)
set_option maxRecDepth 20000 in
theorem gX5_bestRound_J6_bitCount_0f7a4 : GoodIn wsX5_bestRound (va_wsS RX5 59 yJ6_bitCount_0f7a4 wsJ6_bitCount_0f7a4) := goodIn_app (goodIn_of _ (by decide +kernel)) ggX5_bestRound_J6_bitCount_0f7a4
theorem dX5_bestRound_0 : decode cX5_bestRound 0 = .ok (.aload_n 0, 1) := by decide +kernel
theorem dX5_bestRound_1 : decode cX5_bestRound 1 = .ok (.aload_n 1, 1) := by decide +kernel
theorem dX5_bestRound_2 : decode cX5_bestRound 2 = .ok (.invokevirtual 38, 3) := by decide +kernel
theorem dX5_bestRound_5 : decode cX5_bestRound 5 = .ok (.aload_n 0, 1) := by decide +kernel
theorem dX5_bestRound_6 : decode cX5_bestRound 6 = .ok (.getfield 42, 3) := by decide +kernel
theorem dX5_bestRound_9 : decode cX5_bestRound 9 = .ok (.ifnonnull 12, 3) := by decide +kernel
theorem dX5_bestRound_12 : decode cX5_bestRound 12 = .ok (.aload_n 0, 1) := by decide +kernel
theorem dX5_bestRound_13 : decode cX5_bestRound 13 = .ok (.sipush 10240, 3) := by decide +kernel
theorem dX5_bestRound_16 : decode cX5_bestRound 16 = .ok (.newarray .int, 2) := by decide +kernel
theorem dX5_bestRound_18 : decode cX5_bestRound 18 = .ok (.putfield 42, 3) := by decide +kernel
theorem dX5_bestRound_21 : decode cX5_bestRound 21 = .ok (.aload_n 0, 1) := by decide +kernel
theorem dX5_bestRound_22 : decode cX5_bestRound 22 = .ok (.getfield 42, 3) := by decide +kernel
theorem dX5_bestRound_25 : decode cX5_bestRound 25 = .ok (.iconst (-1), 1) := by decide +kernel
theorem dX5_bestRound_26 : decode cX5_bestRound 26 = .ok (.invokestatic 45, 3) := by decide +kernel
theorem dX5_bestRound_29 : decode cX5_bestRound 29 = .ok (.iconst 0, 1) := by decide +kernel
theorem dX5_bestRound_30 : decode cX5_bestRound 30 = .ok (.istore_n 3, 1) := by decide +kernel
theorem dX5_bestRound_31 : decode cX5_bestRound 31 = .ok (.iload_n 3, 1) := by decide +kernel
theorem dX5_bestRound_32 : decode cX5_bestRound 32 = .ok (.bipush 10, 2) := by decide +kernel
theorem dX5_bestRound_34 : decode cX5_bestRound 34 = .ok (.if_icmp .ge 27, 3) := by decide +kernel
theorem dX5_bestRound_37 : decode cX5_bestRound 37 = .ok (.aload_n 0, 1) := by decide +kernel
theorem dX5_bestRound_38 : decode cX5_bestRound 38 = .ok (.aload_n 1, 1) := by decide +kernel
theorem dX5_bestRound_39 : decode cX5_bestRound 39 = .ok (.iconst 1, 1) := by decide +kernel
theorem dX5_bestRound_40 : decode cX5_bestRound 40 = .ok (.iload_n 3, 1) := by decide +kernel
theorem dX5_bestRound_41 : decode cX5_bestRound 41 = .ok (.ishl, 1) := by decide +kernel
theorem dX5_bestRound_42 : decode cX5_bestRound 42 = .ok (.iload_n 3, 1) := by decide +kernel
theorem dX5_bestRound_43 : decode cX5_bestRound 43 = .ok (.iload_n 2, 1) := by decide +kernel
theorem dX5_bestRound_44 : decode cX5_bestRound 44 = .ok (.aload_n 0, 1) := by decide +kernel
theorem dX5_bestRound_45 : decode cX5_bestRound 45 = .ok (.bipush 10, 2) := by decide +kernel
theorem dX5_bestRound_47 : decode cX5_bestRound 47 = .ok (.iload_n 3, 1) := by decide +kernel
theorem dX5_bestRound_48 : decode cX5_bestRound 48 = .ok (.invokevirtual 28, 3) := by decide +kernel
theorem dX5_bestRound_51 : decode cX5_bestRound 51 = .ok (.isub, 1) := by decide +kernel
theorem dX5_bestRound_52 : decode cX5_bestRound 52 = .ok (.invokevirtual 51, 3) := by decide +kernel
theorem dX5_bestRound_55 : decode cX5_bestRound 55 = .ok (.iinc 3 1, 3) := by decide +kernel
theorem dX5_bestRound_58 : decode cX5_bestRound 58 = .ok (.goto (-27), 3) := by decide +kernel
theorem dX5_bestRound_61 : decode cX5_bestRound 61 = .ok (.iconst 0, 1) := by decide +kernel
theorem dX5_bestRound_62 : decode cX5_bestRound 62 = .ok (.istore_n 3, 1) := by decide +kernel
theorem dX5_bestRound_63 : decode cX5_bestRound 63 = .ok (.iconst 1, 1) := by decide +kernel
theorem dX5_bestRound_64 : decode cX5_bestRound 64 = .ok (.istore 4, 2) := by decide +kernel
theorem dX5_bestRound_66 : decode cX5_bestRound 66 = .ok (.iload 4, 2) := by decide +kernel
theorem dX5_bestRound_68 : decode cX5_bestRound 68 = .ok (.sipush 1024, 3) := by decide +kernel
theorem dX5_bestRound_71 : decode cX5_bestRound 71 = .ok (.if_icmp .ge 34, 3) := by decide +kernel
theorem dX5_bestRound_74 : decode cX5_bestRound 74 = .ok (.aload_n 0, 1) := by decide +kernel
theorem dX5_bestRound_75 : decode cX5_bestRound 75 = .ok (.aload_n 1, 1) := by decide +kernel
theorem dX5_bestRound_76 : decode cX5_bestRound 76 = .ok (.iload 4, 2) := by decide +kernel
theorem dX5_bestRound_78 : decode cX5_bestRound 78 = .ok (.invokevirtual 55, 3) := by decide +kernel
theorem dX5_bestRound_81 : decode cX5_bestRound 81 = .ok (.ifCond .eq 18, 3) := by decide +kernel
theorem dX5_bestRound_84 : decode cX5_bestRound 84 = .ok (.iload 4, 2) := by decide +kernel
theorem dX5_bestRound_86 : decode cX5_bestRound 86 = .ok (.invokestatic 59, 3) := by decide +kernel
theorem dX5_bestRound_89 : decode cX5_bestRound 89 = .ok (.iload_n 3, 1) := by decide +kernel
theorem dX5_bestRound_90 : decode cX5_bestRound 90 = .ok (.invokestatic 59, 3) := by decide +kernel
theorem dX5_bestRound_93 : decode cX5_bestRound 93 = .ok (.if_icmp .le 6, 3) := by decide +kernel
theorem dX5_bestRound_96 : decode cX5_bestRound 96 = .ok (.iload 4, 2) := by decide +kernel
theorem dX5_bestRound_98 : decode cX5_bestRound 98 = .ok (.istore_n 3, 1) := by decide +kernel
theorem dX5_bestRound_99 : decode cX5_bestRound 99 = .ok (.iinc 4 1, 3) := by decide +kernel
theorem dX5_bestRound_102 : decode cX5_bestRound 102 = .ok (.goto (-36), 3) := by decide +kernel
theorem dX5_bestRound_105 : decode cX5_bestRound 105 = .ok (.iload_n 3, 1) := by decide +kernel
theorem dX5_bestRound_106 : decode cX5_bestRound 106 = .ok (.ireturn, 1) := by decide +kernel
set_option maxRecDepth 20000 in
theorem ggX5_goOn_X5_heatLeft : GoodIn wsX5_goOn wsX5_heatLeft := goodIn_r _ [5, 6, 7, 8, 9, 10, 11, 40, 41, 42] (by decide +kernel) (by decide +kernel)
set_option maxRecDepth 20000 in
theorem gX5_goOn_X5_heatLeft : GoodIn wsX5_goOn (wsV RX5 65 RX5 yX5_heatLeft wsX5_heatLeft) := goodIn_app (goodIn_of _ (by decide +kernel)) ggX5_goOn_X5_heatLeft
set_option maxRecDepth 20000 in
theorem ggX5_goOn_X6_isIn : GoodIn wsX5_goOn wsX6_isIn := goodIn_r _ [13] (by decide +kernel) (by decide +kernel)
set_option maxRecDepth 20000 in
theorem gX5_goOn_X6_isIn_n68 : GoodIn wsX5_goOn (wsX6_isIn) := ggX5_goOn_X6_isIn
set_option maxRecDepth 20000 in
theorem ggX5_goOn_X5_leastWay : GoodIn wsX5_goOn wsX5_leastWay := goodIn_r _ [17, 18, 19, 8, 20, 40, 41, 42] (by decide +kernel) (by decide +kernel)
set_option maxRecDepth 20000 in
theorem gX5_goOn_X5_leastWay : GoodIn wsX5_goOn (wsV RX5 28 RX5 yX5_leastWay wsX5_leastWay) := goodIn_app (goodIn_of _ (by decide +kernel)) ggX5_goOn_X5_leastWay
set_option maxRecDepth 20000 in
theorem ggX5_goOn_X5_warm : GoodIn wsX5_goOn wsX5_warm := goodIn_r _ [24, 25, 26, 27, 28, 6, 29, 30, 31, 32, 33, 34, 10, 8, 11, 35, 36, 37, 38, 39, 1, 2, 3, 4, 5, 7, 9, 40, 41, 42, 43, 44, 45, 46, 47, 48, 49, 50, 51, 52, 53, 54] (by decide +kernel) (by decide +kernel)
set_option maxRecDepth 20000 in
theorem gX5_goOn_X5_warm : GoodIn wsX5_goOn (wsV RX5 51 RX5 yX5_warm wsX5_warm) := goodIn_app (goodIn_of _ (by decide +kernel)) ggX5_goOn_X5_warm
theorem dX5_goOn_0 : decode cX5_goOn 0 = .ok (.iconst 0, 1) := by decide +kernel
theorem dX5_goOn_1 : decode cX5_goOn 1 = .ok (.istore_n 3, 1) := by decide +kernel
theorem dX5_goOn_2 : decode cX5_goOn 2 = .ok (.iconst 0, 1) := by decide +kernel
theorem dX5_goOn_3 : decode cX5_goOn 3 = .ok (.istore 4, 2) := by decide +kernel
theorem dX5_goOn_5 : decode cX5_goOn 5 = .ok (.iload 4, 2) := by decide +kernel
theorem dX5_goOn_7 : decode cX5_goOn 7 = .ok (.bipush 10, 2) := by decide +kernel
theorem dX5_goOn_9 : decode cX5_goOn 9 = .ok (.if_icmp .ge 78, 3) := by decide +kernel
theorem dX5_goOn_12 : decode cX5_goOn 12 = .ok (.aload_n 0, 1) := by decide +kernel
theorem dX5_goOn_13 : decode cX5_goOn 13 = .ok (.iload_n 2, 1) := by decide +kernel
theorem dX5_goOn_14 : decode cX5_goOn 14 = .ok (.iload 4, 2) := by decide +kernel
theorem dX5_goOn_16 : decode cX5_goOn 16 = .ok (.invokevirtual 65, 3) := by decide +kernel
theorem dX5_goOn_19 : decode cX5_goOn 19 = .ok (.istore 5, 2) := by decide +kernel
theorem dX5_goOn_21 : decode cX5_goOn 21 = .ok (.iload 5, 2) := by decide +kernel
theorem dX5_goOn_23 : decode cX5_goOn 23 = .ok (.iconst (-1), 1) := by decide +kernel
theorem dX5_goOn_24 : decode cX5_goOn 24 = .ok (.if_icmp .ne 6, 3) := by decide +kernel
theorem dX5_goOn_27 : decode cX5_goOn 27 = .ok (.goto 54, 3) := by decide +kernel
theorem dX5_goOn_30 : decode cX5_goOn 30 = .ok (.iconst 1, 1) := by decide +kernel
theorem dX5_goOn_31 : decode cX5_goOn 31 = .ok (.istore_n 3, 1) := by decide +kernel
theorem dX5_goOn_32 : decode cX5_goOn 32 = .ok (.iconst 0, 1) := by decide +kernel
theorem dX5_goOn_33 : decode cX5_goOn 33 = .ok (.istore 6, 2) := by decide +kernel
theorem dX5_goOn_35 : decode cX5_goOn 35 = .ok (.iload 6, 2) := by decide +kernel
theorem dX5_goOn_37 : decode cX5_goOn 37 = .ok (.bipush 10, 2) := by decide +kernel
theorem dX5_goOn_39 : decode cX5_goOn 39 = .ok (.if_icmp .ge 42, 3) := by decide +kernel
theorem dX5_goOn_42 : decode cX5_goOn 42 = .ok (.iload 6, 2) := by decide +kernel
theorem dX5_goOn_44 : decode cX5_goOn 44 = .ok (.iload_n 2, 1) := by decide +kernel
theorem dX5_goOn_45 : decode cX5_goOn 45 = .ok (.invokestatic 68, 3) := by decide +kernel
theorem dX5_goOn_48 : decode cX5_goOn 48 = .ok (.ifCond .ne 27, 3) := by decide +kernel
theorem dX5_goOn_51 : decode cX5_goOn 51 = .ok (.aload_n 0, 1) := by decide +kernel
theorem dX5_goOn_52 : decode cX5_goOn 52 = .ok (.aload_n 1, 1) := by decide +kernel
theorem dX5_goOn_53 : decode cX5_goOn 53 = .ok (.iload_n 2, 1) := by decide +kernel
theorem dX5_goOn_54 : decode cX5_goOn 54 = .ok (.iconst 1, 1) := by decide +kernel
theorem dX5_goOn_55 : decode cX5_goOn 55 = .ok (.iload 6, 2) := by decide +kernel
theorem dX5_goOn_57 : decode cX5_goOn 57 = .ok (.ishl, 1) := by decide +kernel
theorem dX5_goOn_58 : decode cX5_goOn 58 = .ok (.ior, 1) := by decide +kernel
theorem dX5_goOn_59 : decode cX5_goOn 59 = .ok (.iload 6, 2) := by decide +kernel
theorem dX5_goOn_61 : decode cX5_goOn 61 = .ok (.iload 5, 2) := by decide +kernel
theorem dX5_goOn_63 : decode cX5_goOn 63 = .ok (.aload_n 0, 1) := by decide +kernel
theorem dX5_goOn_64 : decode cX5_goOn 64 = .ok (.iload 4, 2) := by decide +kernel
theorem dX5_goOn_66 : decode cX5_goOn 66 = .ok (.iload 6, 2) := by decide +kernel
theorem dX5_goOn_68 : decode cX5_goOn 68 = .ok (.invokevirtual 28, 3) := by decide +kernel
theorem dX5_goOn_71 : decode cX5_goOn 71 = .ok (.isub, 1) := by decide +kernel
theorem dX5_goOn_72 : decode cX5_goOn 72 = .ok (.invokevirtual 51, 3) := by decide +kernel
theorem dX5_goOn_75 : decode cX5_goOn 75 = .ok (.iinc 6 1, 3) := by decide +kernel
theorem dX5_goOn_78 : decode cX5_goOn 78 = .ok (.goto (-43), 3) := by decide +kernel
theorem dX5_goOn_81 : decode cX5_goOn 81 = .ok (.iinc 4 1, 3) := by decide +kernel
theorem dX5_goOn_84 : decode cX5_goOn 84 = .ok (.goto (-79), 3) := by decide +kernel
theorem dX5_goOn_87 : decode cX5_goOn 87 = .ok (.iload_n 3, 1) := by decide +kernel
theorem dX5_goOn_88 : decode cX5_goOn 88 = .ok (.ireturn, 1) := by decide +kernel
set_option maxRecDepth 20000 in
theorem ggX5_heatLeft_X6_within : GoodIn wsX5_heatLeft wsX6_within := goodIn_r _ [4] (by decide +kernel) (by decide +kernel)
set_option maxRecDepth 20000 in
theorem gX5_heatLeft_X6_within_n72 : GoodIn wsX5_heatLeft (wsX6_within) := ggX5_heatLeft_X6_within
set_option maxRecDepth 20000 in
theorem ggX5_heatLeft_X6_isHouse : GoodIn wsX5_heatLeft wsX6_isHouse := goodIn_r _ [6] (by decide +kernel) (by decide +kernel)
set_option maxRecDepth 20000 in
theorem gX5_heatLeft_X6_isHouse_n76 : GoodIn wsX5_heatLeft (wsX6_isHouse) := ggX5_heatLeft_X6_isHouse
theorem dX5_heatLeft_0 : decode cX5_heatLeft 0 = .ok (.aload_n 0, 1) := by decide +kernel
theorem dX5_heatLeft_1 : decode cX5_heatLeft 1 = .ok (.getfield 42, 3) := by decide +kernel
theorem dX5_heatLeft_4 : decode cX5_heatLeft 4 = .ok (.ifnull 25, 3) := by decide +kernel
theorem dX5_heatLeft_7 : decode cX5_heatLeft 7 = .ok (.iload_n 1, 1) := by decide +kernel
theorem dX5_heatLeft_8 : decode cX5_heatLeft 8 = .ok (.iconst 0, 1) := by decide +kernel
theorem dX5_heatLeft_9 : decode cX5_heatLeft 9 = .ok (.sipush 1023, 3) := by decide +kernel
theorem dX5_heatLeft_12 : decode cX5_heatLeft 12 = .ok (.invokestatic 72, 3) := by decide +kernel
theorem dX5_heatLeft_15 : decode cX5_heatLeft 15 = .ok (.ifCond .eq 14, 3) := by decide +kernel
theorem dX5_heatLeft_18 : decode cX5_heatLeft 18 = .ok (.iload_n 2, 1) := by decide +kernel
theorem dX5_heatLeft_19 : decode cX5_heatLeft 19 = .ok (.invokestatic 76, 3) := by decide +kernel
theorem dX5_heatLeft_22 : decode cX5_heatLeft 22 = .ok (.ifCond .eq 7, 3) := by decide +kernel
theorem dX5_heatLeft_25 : decode cX5_heatLeft 25 = .ok (.iconst 1, 1) := by decide +kernel
theorem dX5_heatLeft_26 : decode cX5_heatLeft 26 = .ok (.goto 4, 3) := by decide +kernel
theorem dX5_heatLeft_29 : decode cX5_heatLeft 29 = .ok (.iconst 0, 1) := by decide +kernel
theorem dX5_heatLeft_30 : decode cX5_heatLeft 30 = .ok (.istore_n 3, 1) := by decide +kernel
theorem dX5_heatLeft_31 : decode cX5_heatLeft 31 = .ok (.iload_n 3, 1) := by decide +kernel
theorem dX5_heatLeft_32 : decode cX5_heatLeft 32 = .ok (.ifCond .eq 17, 3) := by decide +kernel
theorem dX5_heatLeft_35 : decode cX5_heatLeft 35 = .ok (.aload_n 0, 1) := by decide +kernel
theorem dX5_heatLeft_36 : decode cX5_heatLeft 36 = .ok (.getfield 42, 3) := by decide +kernel
theorem dX5_heatLeft_39 : decode cX5_heatLeft 39 = .ok (.iload_n 1, 1) := by decide +kernel
theorem dX5_heatLeft_40 : decode cX5_heatLeft 40 = .ok (.bipush 10, 2) := by decide +kernel
theorem dX5_heatLeft_42 : decode cX5_heatLeft 42 = .ok (.imul, 1) := by decide +kernel
theorem dX5_heatLeft_43 : decode cX5_heatLeft 43 = .ok (.iload_n 2, 1) := by decide +kernel
theorem dX5_heatLeft_44 : decode cX5_heatLeft 44 = .ok (.iadd, 1) := by decide +kernel
theorem dX5_heatLeft_45 : decode cX5_heatLeft 45 = .ok (.iaload, 1) := by decide +kernel
theorem dX5_heatLeft_46 : decode cX5_heatLeft 46 = .ok (.goto 4, 3) := by decide +kernel
theorem dX5_heatLeft_49 : decode cX5_heatLeft 49 = .ok (.iconst (-1), 1) := by decide +kernel
theorem dX5_heatLeft_50 : decode cX5_heatLeft 50 = .ok (.ireturn, 1) := by decide +kernel
set_option maxRecDepth 20000 in
theorem ggX5_warm_X1_isDamp : GoodIn wsX5_warm wsX1_isDamp := goodIn_r _ [10, 11, 12, 13, 14, 30, 31, 32, 33, 34, 35, 36, 37, 38, 39, 40, 41] (by decide +kernel) (by decide +kernel)
set_option maxRecDepth 20000 in
theorem gX5_warm_X1_isDamp : GoodIn wsX5_warm (wsV RX5 79 RX1 yX1_isDamp wsX1_isDamp) := goodIn_app (goodIn_of _ (by decide +kernel)) ggX5_warm_X1_isDamp
set_option maxRecDepth 20000 in
theorem ggX5_warm_X1_isConvinced : GoodIn wsX5_warm wsX1_isConvinced := goodIn_r _ [18, 19, 12, 13, 14, 30, 31, 32, 33, 34, 35, 36, 37, 38, 39, 40, 41] (by decide +kernel) (by decide +kernel)
set_option maxRecDepth 20000 in
theorem gX5_warm_X1_isConvinced : GoodIn wsX5_warm (wsV RX5 82 RX1 yX1_isConvinced wsX1_isConvinced) := goodIn_app (goodIn_of _ (by decide +kernel)) ggX5_warm_X1_isConvinced
set_option maxRecDepth 20000 in
theorem ggX5_warm_X5_heatLeft : GoodIn wsX5_warm wsX5_heatLeft := goodIn_r _ [24, 5, 25, 13, 26, 12, 14, 27, 28, 29] (by decide +kernel) (by decide +kernel)
set_option maxRecDepth 20000 in
theorem gX5_warm_X5_heatLeft : GoodIn wsX5_warm (wsV RX5 65 RX5 yX5_heatLeft wsX5_heatLeft) := goodIn_app (goodIn_of _ (by decide +kernel)) ggX5_warm_X5_heatLeft
set_option maxRecDepth 20000 in
theorem ggX5_warm_X6_within : GoodIn wsX5_warm wsX6_within := goodIn_r _ [26] (by decide +kernel) (by decide +kernel)
set_option maxRecDepth 20000 in
theorem gX5_warm_X6_within_n72 : GoodIn wsX5_warm (wsX6_within) := ggX5_warm_X6_within
set_option maxRecDepth 20000 in
theorem ggX5_warm_X6_isHouse : GoodIn wsX5_warm wsX6_isHouse := goodIn_r _ [14] (by decide +kernel) (by decide +kernel)
set_option maxRecDepth 20000 in
theorem gX5_warm_X6_isHouse_n76 : GoodIn wsX5_warm (wsX6_isHouse) := ggX5_warm_X6_isHouse
theorem dX5_warm_0 : decode cX5_warm 0 = .ok (.aload_n 1, 1) := by decide +kernel
theorem dX5_warm_1 : decode cX5_warm 1 = .ok (.iload_n 3, 1) := by decide +kernel
theorem dX5_warm_2 : decode cX5_warm 2 = .ok (.invokevirtual 79, 3) := by decide +kernel
theorem dX5_warm_5 : decode cX5_warm 5 = .ok (.ifCond .ne 13, 3) := by decide +kernel
theorem dX5_warm_8 : decode cX5_warm 8 = .ok (.aload_n 1, 1) := by decide +kernel
theorem dX5_warm_9 : decode cX5_warm 9 = .ok (.iload_n 3, 1) := by decide +kernel
theorem dX5_warm_10 : decode cX5_warm 10 = .ok (.iload 4, 2) := by decide +kernel
theorem dX5_warm_12 : decode cX5_warm 12 = .ok (.invokevirtual 82, 3) := by decide +kernel
theorem dX5_warm_15 : decode cX5_warm 15 = .ok (.ifCond .ne 4, 3) := by decide +kernel
theorem dX5_warm_18 : decode cX5_warm 18 = .ok (.return_, 1) := by decide +kernel
theorem dX5_warm_19 : decode cX5_warm 19 = .ok (.iconst 0, 1) := by decide +kernel
theorem dX5_warm_20 : decode cX5_warm 20 = .ok (.iload 4, 2) := by decide +kernel
theorem dX5_warm_22 : decode cX5_warm 22 = .ok (.iconst 5, 1) := by decide +kernel
theorem dX5_warm_23 : decode cX5_warm 23 = .ok (.isub, 1) := by decide +kernel
theorem dX5_warm_24 : decode cX5_warm 24 = .ok (.invokestatic 85, 3) := by decide +kernel
theorem dX5_warm_27 : decode cX5_warm 27 = .ok (.istore 5, 2) := by decide +kernel
theorem dX5_warm_29 : decode cX5_warm 29 = .ok (.iload 5, 2) := by decide +kernel
theorem dX5_warm_31 : decode cX5_warm 31 = .ok (.aload_n 0, 1) := by decide +kernel
theorem dX5_warm_32 : decode cX5_warm 32 = .ok (.iload_n 2, 1) := by decide +kernel
theorem dX5_warm_33 : decode cX5_warm 33 = .ok (.iload_n 3, 1) := by decide +kernel
theorem dX5_warm_34 : decode cX5_warm 34 = .ok (.invokevirtual 65, 3) := by decide +kernel
theorem dX5_warm_37 : decode cX5_warm 37 = .ok (.if_icmp .le 41, 3) := by decide +kernel
theorem dX5_warm_40 : decode cX5_warm 40 = .ok (.aload_n 0, 1) := by decide +kernel
theorem dX5_warm_41 : decode cX5_warm 41 = .ok (.getfield 42, 3) := by decide +kernel
theorem dX5_warm_44 : decode cX5_warm 44 = .ok (.ifnull 34, 3) := by decide +kernel
theorem dX5_warm_47 : decode cX5_warm 47 = .ok (.iload_n 2, 1) := by decide +kernel
theorem dX5_warm_48 : decode cX5_warm 48 = .ok (.iconst 0, 1) := by decide +kernel
theorem dX5_warm_49 : decode cX5_warm 49 = .ok (.sipush 1023, 3) := by decide +kernel
theorem dX5_warm_52 : decode cX5_warm 52 = .ok (.invokestatic 72, 3) := by decide +kernel
theorem dX5_warm_55 : decode cX5_warm 55 = .ok (.ifCond .eq 23, 3) := by decide +kernel
theorem dX5_warm_58 : decode cX5_warm 58 = .ok (.iload_n 3, 1) := by decide +kernel
theorem dX5_warm_59 : decode cX5_warm 59 = .ok (.invokestatic 76, 3) := by decide +kernel
theorem dX5_warm_62 : decode cX5_warm 62 = .ok (.ifCond .eq 16, 3) := by decide +kernel
theorem dX5_warm_65 : decode cX5_warm 65 = .ok (.aload_n 0, 1) := by decide +kernel
theorem dX5_warm_66 : decode cX5_warm 66 = .ok (.getfield 42, 3) := by decide +kernel
theorem dX5_warm_69 : decode cX5_warm 69 = .ok (.iload_n 2, 1) := by decide +kernel
theorem dX5_warm_70 : decode cX5_warm 70 = .ok (.bipush 10, 2) := by decide +kernel
theorem dX5_warm_72 : decode cX5_warm 72 = .ok (.imul, 1) := by decide +kernel
theorem dX5_warm_73 : decode cX5_warm 73 = .ok (.iload_n 3, 1) := by decide +kernel
theorem dX5_warm_74 : decode cX5_warm 74 = .ok (.iadd, 1) := by decide +kernel
theorem dX5_warm_75 : decode cX5_warm 75 = .ok (.iload 5, 2) := by decide +kernel
theorem dX5_warm_77 : decode cX5_warm 77 = .ok (.iastore, 1) := by decide +kernel
theorem dX5_warm_78 : decode cX5_warm 78 = .ok (.return_, 1) := by decide +kernel
set_option maxRecDepth 20000 in
theorem ggX5_fewestDamp_X1_longBetween : GoodIn wsX5_fewestDamp wsX1_longBetween := goodIn_r _ [5, 6, 7, 8, 9, 29, 30, 31, 32, 33, 34, 35, 36, 37, 38, 39, 40] (by decide +kernel) (by decide +kernel)
set_option maxRecDepth 20000 in
theorem gX5_fewestDamp_X1_longBetween : GoodIn wsX5_fewestDamp (wsV RX5 18 RX1 yX1_longBetween wsX1_longBetween) := goodIn_app (goodIn_of _ (by decide +kernel)) ggX5_fewestDamp_X1_longBetween
set_option maxRecDepth 20000 in
theorem ggX5_fewestDamp_X5_findNeighbours : GoodIn wsX5_fewestDamp wsX5_findNeighbours := goodIn_r _ [14, 15, 1, 2, 3, 4, 5, 6, 7, 8, 9, 41, 42, 43, 29, 30, 31, 32, 33, 34, 35, 36, 37, 38, 39, 40] (by decide +kernel) (by decide +kernel)
set_option maxRecDepth 20000 in
theorem gX5_fewestDamp_X5_findNeighbours : GoodIn wsX5_fewestDamp (wsV RX5 90 RX5 yX5_findNeighbours wsX5_findNeighbours) := goodIn_app (goodIn_of _ (by decide +kernel)) ggX5_fewestDamp_X5_findNeighbours
set_option maxRecDepth 20000 in
theorem ggX5_fewestDamp_J6_bitCount_0f7a4 : GoodIn wsX5_fewestDamp wsJ6_bitCount_0f7a4 := goodIn_r _ [19, 20, 21, 22] (by decide +kernel) (by decide +kernel)
set_option maxRecDepth 20000 in
theorem gX5_fewestDamp_J6_bitCount_0f7a4 : GoodIn wsX5_fewestDamp (va_wsS RX5 59 yJ6_bitCount_0f7a4 wsJ6_bitCount_0f7a4) := goodIn_app (goodIn_of _ (by decide +kernel)) ggX5_fewestDamp_J6_bitCount_0f7a4
set_option maxRecDepth 20000 in
theorem ggX5_fewestDamp_X6_isIn : GoodIn wsX5_fewestDamp wsX6_isIn := goodIn_r _ [24] (by decide +kernel) (by decide +kernel)
set_option maxRecDepth 20000 in
theorem gX5_fewestDamp_X6_isIn_n68 : GoodIn wsX5_fewestDamp (wsX6_isIn) := ggX5_fewestDamp_X6_isIn
set_option maxRecDepth 20000 in
theorem ggX5_fewestDamp_X5_leadsTo : GoodIn wsX5_fewestDamp wsX5_leadsTo := goodIn_r _ [28, 15, 23, 8, 24, 41, 42, 43] (by decide +kernel) (by decide +kernel)
set_option maxRecDepth 20000 in
theorem gX5_fewestDamp_X5_leadsTo : GoodIn wsX5_fewestDamp (wsV RX5 93 RX5 yX5_leadsTo wsX5_leadsTo) := goodIn_app (goodIn_of _ (by decide +kernel)) ggX5_fewestDamp_X5_leadsTo
theorem dX5_fewestDamp_0 : decode cX5_fewestDamp 0 = .ok (.aload_n 1, 1) := by decide +kernel
theorem dX5_fewestDamp_1 : decode cX5_fewestDamp 1 = .ok (.bipush 10, 2) := by decide +kernel
theorem dX5_fewestDamp_3 : decode cX5_fewestDamp 3 = .ok (.iload_n 2, 1) := by decide +kernel
theorem dX5_fewestDamp_4 : decode cX5_fewestDamp 4 = .ok (.invokevirtual 18, 3) := by decide +kernel
theorem dX5_fewestDamp_7 : decode cX5_fewestDamp 7 = .ok (.ifCond .le 6, 3) := by decide +kernel
theorem dX5_fewestDamp_10 : decode cX5_fewestDamp 10 = .ok (.bipush (-6), 2) := by decide +kernel
theorem dX5_fewestDamp_12 : decode cX5_fewestDamp 12 = .ok (.ireturn, 1) := by decide +kernel
theorem dX5_fewestDamp_13 : decode cX5_fewestDamp 13 = .ok (.aload_n 0, 1) := by decide +kernel
theorem dX5_fewestDamp_14 : decode cX5_fewestDamp 14 = .ok (.aload_n 1, 1) := by decide +kernel
theorem dX5_fewestDamp_15 : decode cX5_fewestDamp 15 = .ok (.invokevirtual 90, 3) := by decide +kernel
theorem dX5_fewestDamp_18 : decode cX5_fewestDamp 18 = .ok (.bipush (-6), 2) := by decide +kernel
theorem dX5_fewestDamp_20 : decode cX5_fewestDamp 20 = .ok (.istore_n 3, 1) := by decide +kernel
theorem dX5_fewestDamp_21 : decode cX5_fewestDamp 21 = .ok (.iconst 0, 1) := by decide +kernel
theorem dX5_fewestDamp_22 : decode cX5_fewestDamp 22 = .ok (.istore 4, 2) := by decide +kernel
theorem dX5_fewestDamp_24 : decode cX5_fewestDamp 24 = .ok (.iload 4, 2) := by decide +kernel
theorem dX5_fewestDamp_26 : decode cX5_fewestDamp 26 = .ok (.sipush 1024, 3) := by decide +kernel
theorem dX5_fewestDamp_29 : decode cX5_fewestDamp 29 = .ok (.if_icmp .ge 61, 3) := by decide +kernel
theorem dX5_fewestDamp_32 : decode cX5_fewestDamp 32 = .ok (.iload_n 3, 1) := by decide +kernel
theorem dX5_fewestDamp_33 : decode cX5_fewestDamp 33 = .ok (.bipush (-6), 2) := by decide +kernel
theorem dX5_fewestDamp_35 : decode cX5_fewestDamp 35 = .ok (.if_icmp .eq 15, 3) := by decide +kernel
theorem dX5_fewestDamp_38 : decode cX5_fewestDamp 38 = .ok (.iload 4, 2) := by decide +kernel
theorem dX5_fewestDamp_40 : decode cX5_fewestDamp 40 = .ok (.invokestatic 59, 3) := by decide +kernel
theorem dX5_fewestDamp_43 : decode cX5_fewestDamp 43 = .ok (.iload_n 3, 1) := by decide +kernel
theorem dX5_fewestDamp_44 : decode cX5_fewestDamp 44 = .ok (.invokestatic 59, 3) := by decide +kernel
theorem dX5_fewestDamp_47 : decode cX5_fewestDamp 47 = .ok (.if_icmp .ge 7, 3) := by decide +kernel
theorem dX5_fewestDamp_50 : decode cX5_fewestDamp 50 = .ok (.iconst 1, 1) := by decide +kernel
theorem dX5_fewestDamp_51 : decode cX5_fewestDamp 51 = .ok (.goto 4, 3) := by decide +kernel
theorem dX5_fewestDamp_54 : decode cX5_fewestDamp 54 = .ok (.iconst 0, 1) := by decide +kernel
theorem dX5_fewestDamp_55 : decode cX5_fewestDamp 55 = .ok (.istore 5, 2) := by decide +kernel
theorem dX5_fewestDamp_57 : decode cX5_fewestDamp 57 = .ok (.iload 5, 2) := by decide +kernel
theorem dX5_fewestDamp_59 : decode cX5_fewestDamp 59 = .ok (.ifCond .eq 25, 3) := by decide +kernel
theorem dX5_fewestDamp_62 : decode cX5_fewestDamp 62 = .ok (.iload_n 2, 1) := by decide +kernel
theorem dX5_fewestDamp_63 : decode cX5_fewestDamp 63 = .ok (.iload 4, 2) := by decide +kernel
theorem dX5_fewestDamp_65 : decode cX5_fewestDamp 65 = .ok (.invokestatic 68, 3) := by decide +kernel
theorem dX5_fewestDamp_68 : decode cX5_fewestDamp 68 = .ok (.ifCond .ne 16, 3) := by decide +kernel
theorem dX5_fewestDamp_71 : decode cX5_fewestDamp 71 = .ok (.aload_n 0, 1) := by decide +kernel
theorem dX5_fewestDamp_72 : decode cX5_fewestDamp 72 = .ok (.iload_n 2, 1) := by decide +kernel
theorem dX5_fewestDamp_73 : decode cX5_fewestDamp 73 = .ok (.iload 4, 2) := by decide +kernel
theorem dX5_fewestDamp_75 : decode cX5_fewestDamp 75 = .ok (.invokevirtual 93, 3) := by decide +kernel
theorem dX5_fewestDamp_78 : decode cX5_fewestDamp 78 = .ok (.ifCond .ne 6, 3) := by decide +kernel
theorem dX5_fewestDamp_81 : decode cX5_fewestDamp 81 = .ok (.iload 4, 2) := by decide +kernel
theorem dX5_fewestDamp_83 : decode cX5_fewestDamp 83 = .ok (.istore_n 3, 1) := by decide +kernel
theorem dX5_fewestDamp_84 : decode cX5_fewestDamp 84 = .ok (.iinc 4 1, 3) := by decide +kernel
theorem dX5_fewestDamp_87 : decode cX5_fewestDamp 87 = .ok (.goto (-63), 3) := by decide +kernel
theorem dX5_fewestDamp_90 : decode cX5_fewestDamp 90 = .ok (.iload_n 3, 1) := by decide +kernel
theorem dX5_fewestDamp_91 : decode cX5_fewestDamp 91 = .ok (.ireturn, 1) := by decide +kernel
set_option maxRecDepth 20000 in
theorem ggX5_findNeighbours_X1_longBetween : GoodIn wsX5_findNeighbours wsX1_longBetween := goodIn_r _ [6, 7, 8, 9, 10, 14, 15, 16, 17, 18, 19, 20, 21, 22, 23, 24, 25] (by decide +kernel) (by decide +kernel)
set_option maxRecDepth 20000 in
theorem gX5_findNeighbours_X1_longBetween : GoodIn wsX5_findNeighbours (wsV RX5 18 RX1 yX1_longBetween wsX1_longBetween) := goodIn_app (goodIn_of _ (by decide +kernel)) ggX5_findNeighbours_X1_longBetween
theorem dX5_findNeighbours_0 : decode cX5_findNeighbours 0 = .ok (.iconst 0, 1) := by decide +kernel
theorem dX5_findNeighbours_1 : decode cX5_findNeighbours 1 = .ok (.istore_n 2, 1) := by decide +kernel
theorem dX5_findNeighbours_2 : decode cX5_findNeighbours 2 = .ok (.iload_n 2, 1) := by decide +kernel
theorem dX5_findNeighbours_3 : decode cX5_findNeighbours 3 = .ok (.bipush 11, 2) := by decide +kernel
theorem dX5_findNeighbours_5 : decode cX5_findNeighbours 5 = .ok (.if_icmp .ge 51, 3) := by decide +kernel
theorem dX5_findNeighbours_8 : decode cX5_findNeighbours 8 = .ok (.iconst 0, 1) := by decide +kernel
theorem dX5_findNeighbours_9 : decode cX5_findNeighbours 9 = .ok (.istore_n 3, 1) := by decide +kernel
theorem dX5_findNeighbours_10 : decode cX5_findNeighbours 10 = .ok (.iconst 0, 1) := by decide +kernel
theorem dX5_findNeighbours_11 : decode cX5_findNeighbours 11 = .ok (.istore 4, 2) := by decide +kernel
theorem dX5_findNeighbours_13 : decode cX5_findNeighbours 13 = .ok (.iload 4, 2) := by decide +kernel
theorem dX5_findNeighbours_15 : decode cX5_findNeighbours 15 = .ok (.bipush 11, 2) := by decide +kernel
theorem dX5_findNeighbours_17 : decode cX5_findNeighbours 17 = .ok (.if_icmp .ge 26, 3) := by decide +kernel
theorem dX5_findNeighbours_20 : decode cX5_findNeighbours 20 = .ok (.aload_n 1, 1) := by decide +kernel
theorem dX5_findNeighbours_21 : decode cX5_findNeighbours 21 = .ok (.iload_n 2, 1) := by decide +kernel
theorem dX5_findNeighbours_22 : decode cX5_findNeighbours 22 = .ok (.iload 4, 2) := by decide +kernel
theorem dX5_findNeighbours_24 : decode cX5_findNeighbours 24 = .ok (.invokevirtual 18, 3) := by decide +kernel
theorem dX5_findNeighbours_27 : decode cX5_findNeighbours 27 = .ok (.ifCond .le 10, 3) := by decide +kernel
theorem dX5_findNeighbours_30 : decode cX5_findNeighbours 30 = .ok (.iload_n 3, 1) := by decide +kernel
theorem dX5_findNeighbours_31 : decode cX5_findNeighbours 31 = .ok (.iconst 1, 1) := by decide +kernel
theorem dX5_findNeighbours_32 : decode cX5_findNeighbours 32 = .ok (.iload 4, 2) := by decide +kernel
theorem dX5_findNeighbours_34 : decode cX5_findNeighbours 34 = .ok (.ishl, 1) := by decide +kernel
theorem dX5_findNeighbours_35 : decode cX5_findNeighbours 35 = .ok (.ior, 1) := by decide +kernel
theorem dX5_findNeighbours_36 : decode cX5_findNeighbours 36 = .ok (.istore_n 3, 1) := by decide +kernel
theorem dX5_findNeighbours_37 : decode cX5_findNeighbours 37 = .ok (.iinc 4 1, 3) := by decide +kernel
theorem dX5_findNeighbours_40 : decode cX5_findNeighbours 40 = .ok (.goto (-27), 3) := by decide +kernel
theorem dX5_findNeighbours_43 : decode cX5_findNeighbours 43 = .ok (.aload_n 0, 1) := by decide +kernel
theorem dX5_findNeighbours_44 : decode cX5_findNeighbours 44 = .ok (.getfield 15, 3) := by decide +kernel
theorem dX5_findNeighbours_47 : decode cX5_findNeighbours 47 = .ok (.iload_n 2, 1) := by decide +kernel
theorem dX5_findNeighbours_48 : decode cX5_findNeighbours 48 = .ok (.iload_n 3, 1) := by decide +kernel
theorem dX5_findNeighbours_49 : decode cX5_findNeighbours 49 = .ok (.iastore, 1) := by decide +kernel
theorem dX5_findNeighbours_50 : decode cX5_findNeighbours 50 = .ok (.iinc 2 1, 3) := by decide +kernel
theorem dX5_findNeighbours_53 : decode cX5_findNeighbours 53 = .ok (.goto (-51), 3) := by decide +kernel
theorem dX5_findNeighbours_56 : decode cX5_findNeighbours 56 = .ok (.return_, 1) := by decide +kernel
set_option maxRecDepth 20000 in
theorem ggX5_leadsTo_X6_isIn : GoodIn wsX5_leadsTo wsX6_isIn := goodIn_r _ [4] (by decide +kernel) (by decide +kernel)
set_option maxRecDepth 20000 in
theorem gX5_leadsTo_X6_isIn_n68 : GoodIn wsX5_leadsTo (wsX6_isIn) := ggX5_leadsTo_X6_isIn
theorem dX5_leadsTo_0 : decode cX5_leadsTo 0 = .ok (.sipush 1024, 3) := by decide +kernel
theorem dX5_leadsTo_3 : decode cX5_leadsTo 3 = .ok (.istore_n 3, 1) := by decide +kernel
theorem dX5_leadsTo_4 : decode cX5_leadsTo 4 = .ok (.iconst 0, 1) := by decide +kernel
theorem dX5_leadsTo_5 : decode cX5_leadsTo 5 = .ok (.istore 4, 2) := by decide +kernel
theorem dX5_leadsTo_7 : decode cX5_leadsTo 7 = .ok (.iload 4, 2) := by decide +kernel
theorem dX5_leadsTo_9 : decode cX5_leadsTo 9 = .ok (.bipush 11, 2) := by decide +kernel
theorem dX5_leadsTo_11 : decode cX5_leadsTo 11 = .ok (.if_icmp .ge 64, 3) := by decide +kernel
theorem dX5_leadsTo_14 : decode cX5_leadsTo 14 = .ok (.iload_n 1, 1) := by decide +kernel
theorem dX5_leadsTo_15 : decode cX5_leadsTo 15 = .ok (.iload_n 3, 1) := by decide +kernel
theorem dX5_leadsTo_16 : decode cX5_leadsTo 16 = .ok (.invokestatic 68, 3) := by decide +kernel
theorem dX5_leadsTo_19 : decode cX5_leadsTo 19 = .ok (.ifCond .ne 56, 3) := by decide +kernel
theorem dX5_leadsTo_22 : decode cX5_leadsTo 22 = .ok (.iload_n 3, 1) := by decide +kernel
theorem dX5_leadsTo_23 : decode cX5_leadsTo 23 = .ok (.istore 5, 2) := by decide +kernel
theorem dX5_leadsTo_25 : decode cX5_leadsTo 25 = .ok (.iconst 0, 1) := by decide +kernel
theorem dX5_leadsTo_26 : decode cX5_leadsTo 26 = .ok (.istore 6, 2) := by decide +kernel
theorem dX5_leadsTo_28 : decode cX5_leadsTo 28 = .ok (.iload 6, 2) := by decide +kernel
theorem dX5_leadsTo_30 : decode cX5_leadsTo 30 = .ok (.bipush 11, 2) := by decide +kernel
theorem dX5_leadsTo_32 : decode cX5_leadsTo 32 = .ok (.if_icmp .ge 34, 3) := by decide +kernel
theorem dX5_leadsTo_35 : decode cX5_leadsTo 35 = .ok (.iload 6, 2) := by decide +kernel
theorem dX5_leadsTo_37 : decode cX5_leadsTo 37 = .ok (.iload_n 3, 1) := by decide +kernel
theorem dX5_leadsTo_38 : decode cX5_leadsTo 38 = .ok (.invokestatic 68, 3) := by decide +kernel
theorem dX5_leadsTo_41 : decode cX5_leadsTo 41 = .ok (.ifCond .eq 19, 3) := by decide +kernel
theorem dX5_leadsTo_44 : decode cX5_leadsTo 44 = .ok (.iload 5, 2) := by decide +kernel
theorem dX5_leadsTo_46 : decode cX5_leadsTo 46 = .ok (.aload_n 0, 1) := by decide +kernel
theorem dX5_leadsTo_47 : decode cX5_leadsTo 47 = .ok (.getfield 15, 3) := by decide +kernel
theorem dX5_leadsTo_50 : decode cX5_leadsTo 50 = .ok (.iload 6, 2) := by decide +kernel
theorem dX5_leadsTo_52 : decode cX5_leadsTo 52 = .ok (.iaload, 1) := by decide +kernel
theorem dX5_leadsTo_53 : decode cX5_leadsTo 53 = .ok (.iload_n 2, 1) := by decide +kernel
theorem dX5_leadsTo_54 : decode cX5_leadsTo 54 = .ok (.iconst (-1), 1) := by decide +kernel
theorem dX5_leadsTo_55 : decode cX5_leadsTo 55 = .ok (.ixor, 1) := by decide +kernel
theorem dX5_leadsTo_56 : decode cX5_leadsTo 56 = .ok (.iand, 1) := by decide +kernel
theorem dX5_leadsTo_57 : decode cX5_leadsTo 57 = .ok (.ior, 1) := by decide +kernel
theorem dX5_leadsTo_58 : decode cX5_leadsTo 58 = .ok (.istore 5, 2) := by decide +kernel
theorem dX5_leadsTo_60 : decode cX5_leadsTo 60 = .ok (.iinc 6 1, 3) := by decide +kernel
theorem dX5_leadsTo_63 : decode cX5_leadsTo 63 = .ok (.goto (-35), 3) := by decide +kernel
theorem dX5_leadsTo_66 : decode cX5_leadsTo 66 = .ok (.iload 5, 2) := by decide +kernel
theorem dX5_leadsTo_68 : decode cX5_leadsTo 68 = .ok (.istore_n 3, 1) := by decide +kernel
theorem dX5_leadsTo_69 : decode cX5_leadsTo 69 = .ok (.iinc 4 1, 3) := by decide +kernel
theorem dX5_leadsTo_72 : decode cX5_leadsTo 72 = .ok (.goto (-65), 3) := by decide +kernel
theorem dX5_leadsTo_75 : decode cX5_leadsTo 75 = .ok (.iload_n 1, 1) := by decide +kernel
theorem dX5_leadsTo_76 : decode cX5_leadsTo 76 = .ok (.iload_n 3, 1) := by decide +kernel
theorem dX5_leadsTo_77 : decode cX5_leadsTo 77 = .ok (.invokestatic 68, 3) := by decide +kernel
theorem dX5_leadsTo_80 : decode cX5_leadsTo 80 = .ok (.ireturn, 1) := by decide +kernel
set_option maxRecDepth 20000 in
theorem ggX6_init_X1_init : GoodIn wsX6_init wsX1_init := goodIn_r _ [32, 33, 2, 3, 34, 35, 36, 37, 38, 39, 40, 41, 42, 43, 44, 45, 46, 72, 73, 74, 75, 76, 77, 78, 79, 80, 81, 82, 83] (by decide +kernel) (by decide +kernel)
set_option maxRecDepth 20000 in
theorem gX6_init_X1_init : GoodIn wsX6_init (wsX1_init) := ggX6_init_X1_init
set_option maxRecDepth 20000 in
theorem ggX6_init_X3_init : GoodIn wsX6_init wsX3_init := goodIn_r _ [48, 49, 2, 3, 34, 50, 92, 93] (by decide +kernel) (by decide +kernel)
set_option maxRecDepth 20000 in
theorem gX6_init_X3_init_n25 : GoodIn wsX6_init (wsX3_init) := ggX6_init_X3_init
set_option maxRecDepth 20000 in
theorem ggX6_init_X2_init : GoodIn wsX6_init wsX2_init := goodIn_r _ [52, 53, 2, 3] (by decide +kernel) (by decide +kernel)
set_option maxRecDepth 20000 in
theorem gX6_init_X2_init_n32 : GoodIn wsX6_init (wsX2_init) := ggX6_init_X2_init
set_option maxRecDepth 20000 in
theorem ggX6_init_X5_init : GoodIn wsX6_init wsX5_init := goodIn_r _ [55, 56, 2, 3, 34, 57, 58, 100, 101, 102] (by decide +kernel) (by decide +kernel)
set_option maxRecDepth 20000 in
theorem gX6_init_X5_init_n39 : GoodIn wsX6_init (wsX5_init) := ggX6_init_X5_init
set_option maxRecDepth 20000 in
theorem ggX6_init_X4_init : GoodIn wsX6_init wsX4_init := goodIn_r _ [60, 61, 2, 3, 34, 62, 63, 64, 103, 104, 105, 106] (by decide +kernel) (by decide +kernel)
set_option maxRecDepth 20000 in
theorem gX6_init_X4_init_n46 : GoodIn wsX6_init (wsX4_init) := ggX6_init_X4_init
set_option maxRecDepth 20000 in
theorem ggX6_init_X0_init : GoodIn wsX6_init wsX0_init := goodIn_r _ [66, 67, 2, 3, 68, 69, 70, 34, 71, 107, 108, 109] (by decide +kernel) (by decide +kernel)
set_option maxRecDepth 20000 in
theorem gX6_init_X0_init_n53 : GoodIn wsX6_init (wsX0_init) := ggX6_init_X0_init
theorem dX6_init_0 : decode cX6_init 0 = .ok (.aload_n 0, 1) := by decide +kernel
theorem dX6_init_1 : decode cX6_init 1 = .ok (.invokespecial 3, 3) := by decide +kernel
theorem dX6_init_4 : decode cX6_init 4 = .ok (.aload_n 0, 1) := by decide +kernel
theorem dX6_init_5 : decode cX6_init 5 = .ok (.new 9, 3) := by decide +kernel
theorem dX6_init_8 : decode cX6_init 8 = .ok (.dup, 1) := by decide +kernel
theorem dX6_init_9 : decode cX6_init 9 = .ok (.invokespecial 11, 3) := by decide +kernel
theorem dX6_init_12 : decode cX6_init 12 = .ok (.putfield 12, 3) := by decide +kernel
theorem dX6_init_15 : decode cX6_init 15 = .ok (.aload_n 0, 1) := by decide +kernel
theorem dX6_init_16 : decode cX6_init 16 = .ok (.new 9, 3) := by decide +kernel
theorem dX6_init_19 : decode cX6_init 19 = .ok (.dup, 1) := by decide +kernel
theorem dX6_init_20 : decode cX6_init 20 = .ok (.invokespecial 11, 3) := by decide +kernel
theorem dX6_init_23 : decode cX6_init 23 = .ok (.putfield 16, 3) := by decide +kernel
theorem dX6_init_26 : decode cX6_init 26 = .ok (.aload_n 0, 1) := by decide +kernel
theorem dX6_init_27 : decode cX6_init 27 = .ok (.iconst 2, 1) := by decide +kernel
theorem dX6_init_28 : decode cX6_init 28 = .ok (.anewarray 9, 3) := by decide +kernel
theorem dX6_init_31 : decode cX6_init 31 = .ok (.putfield 19, 3) := by decide +kernel
theorem dX6_init_34 : decode cX6_init 34 = .ok (.aload_n 0, 1) := by decide +kernel
theorem dX6_init_35 : decode cX6_init 35 = .ok (.new 23, 3) := by decide +kernel
theorem dX6_init_38 : decode cX6_init 38 = .ok (.dup, 1) := by decide +kernel
theorem dX6_init_39 : decode cX6_init 39 = .ok (.invokespecial 25, 3) := by decide +kernel
theorem dX6_init_42 : decode cX6_init 42 = .ok (.putfield 26, 3) := by decide +kernel
theorem dX6_init_45 : decode cX6_init 45 = .ok (.aload_n 0, 1) := by decide +kernel
theorem dX6_init_46 : decode cX6_init 46 = .ok (.new 30, 3) := by decide +kernel
theorem dX6_init_49 : decode cX6_init 49 = .ok (.dup, 1) := by decide +kernel
theorem dX6_init_50 : decode cX6_init 50 = .ok (.invokespecial 32, 3) := by decide +kernel
theorem dX6_init_53 : decode cX6_init 53 = .ok (.putfield 33, 3) := by decide +kernel
theorem dX6_init_56 : decode cX6_init 56 = .ok (.aload_n 0, 1) := by decide +kernel
theorem dX6_init_57 : decode cX6_init 57 = .ok (.new 37, 3) := by decide +kernel
theorem dX6_init_60 : decode cX6_init 60 = .ok (.dup, 1) := by decide +kernel
theorem dX6_init_61 : decode cX6_init 61 = .ok (.invokespecial 39, 3) := by decide +kernel
theorem dX6_init_64 : decode cX6_init 64 = .ok (.putfield 40, 3) := by decide +kernel
theorem dX6_init_67 : decode cX6_init 67 = .ok (.aload_n 0, 1) := by decide +kernel
theorem dX6_init_68 : decode cX6_init 68 = .ok (.new 44, 3) := by decide +kernel
theorem dX6_init_71 : decode cX6_init 71 = .ok (.dup, 1) := by decide +kernel
theorem dX6_init_72 : decode cX6_init 72 = .ok (.invokespecial 46, 3) := by decide +kernel
theorem dX6_init_75 : decode cX6_init 75 = .ok (.putfield 47, 3) := by decide +kernel
theorem dX6_init_78 : decode cX6_init 78 = .ok (.aload_n 0, 1) := by decide +kernel
theorem dX6_init_79 : decode cX6_init 79 = .ok (.new 51, 3) := by decide +kernel
theorem dX6_init_82 : decode cX6_init 82 = .ok (.dup, 1) := by decide +kernel
theorem dX6_init_83 : decode cX6_init 83 = .ok (.invokespecial 53, 3) := by decide +kernel
theorem dX6_init_86 : decode cX6_init 86 = .ok (.putfield 54, 3) := by decide +kernel
theorem dX6_init_89 : decode cX6_init 89 = .ok (.return_, 1) := by decide +kernel
set_option maxRecDepth 20000 in
theorem ggX6_road_X6_isPlace : GoodIn wsX6_road wsX6_isPlace := goodIn_r _ [5] (by decide +kernel) (by decide +kernel)
set_option maxRecDepth 20000 in
theorem gX6_road_X6_isPlace : GoodIn wsX6_road (va_wsS RX6 58 yX6_isPlace wsX6_isPlace) := goodIn_app (goodIn_of _ (by decide +kernel)) ggX6_road_X6_isPlace
set_option maxRecDepth 20000 in
theorem ggX6_road_X6_within : GoodIn wsX6_road wsX6_within := goodIn_r _ [8] (by decide +kernel) (by decide +kernel)
set_option maxRecDepth 20000 in
theorem gX6_road_X6_within : GoodIn wsX6_road (va_wsS RX6 62 yX6_within wsX6_within) := goodIn_app (goodIn_of _ (by decide +kernel)) ggX6_road_X6_within
set_option maxRecDepth 20000 in
theorem ggX6_road_X1_longBetween : GoodIn wsX6_road wsX1_longBetween := goodIn_r _ [13, 14, 3, 4, 5, 27, 28, 29, 30, 31, 32, 33, 34, 35, 36, 37, 38] (by decide +kernel) (by decide +kernel)
set_option maxRecDepth 20000 in
theorem gX6_road_X1_longBetween : GoodIn wsX6_road (wsV RX6 66 RX1 yX1_longBetween wsX1_longBetween) := goodIn_app (goodIn_of _ (by decide +kernel)) ggX6_road_X1_longBetween
set_option maxRecDepth 20000 in
theorem ggX6_road_X1_layRoad : GoodIn wsX6_road wsX1_layRoad := goodIn_r _ [18, 14, 3, 4, 5, 27, 28, 29, 30, 31, 32, 33, 34, 35, 36, 37, 38] (by decide +kernel) (by decide +kernel)
set_option maxRecDepth 20000 in
theorem gX6_road_X1_layRoad : GoodIn wsX6_road (wsV RX6 70 RX1 yX1_layRoad wsX1_layRoad) := goodIn_app (goodIn_of _ (by decide +kernel)) ggX6_road_X1_layRoad
theorem dX6_road_0 : decode cX6_road 0 = .ok (.iload_n 1, 1) := by decide +kernel
theorem dX6_road_1 : decode cX6_road 1 = .ok (.invokestatic 58, 3) := by decide +kernel
theorem dX6_road_4 : decode cX6_road 4 = .ok (.ifCond .eq 15, 3) := by decide +kernel
theorem dX6_road_7 : decode cX6_road 7 = .ok (.iload_n 2, 1) := by decide +kernel
theorem dX6_road_8 : decode cX6_road 8 = .ok (.invokestatic 58, 3) := by decide +kernel
theorem dX6_road_11 : decode cX6_road 11 = .ok (.ifCond .eq 8, 3) := by decide +kernel
theorem dX6_road_14 : decode cX6_road 14 = .ok (.iload_n 1, 1) := by decide +kernel
theorem dX6_road_15 : decode cX6_road 15 = .ok (.iload_n 2, 1) := by decide +kernel
theorem dX6_road_16 : decode cX6_road 16 = .ok (.if_icmp .ne 5, 3) := by decide +kernel
theorem dX6_road_19 : decode cX6_road 19 = .ok (.iconst (-1), 1) := by decide +kernel
theorem dX6_road_20 : decode cX6_road 20 = .ok (.ireturn, 1) := by decide +kernel
theorem dX6_road_21 : decode cX6_road 21 = .ok (.iload_n 3, 1) := by decide +kernel
theorem dX6_road_22 : decode cX6_road 22 = .ok (.iconst 0, 1) := by decide +kernel
theorem dX6_road_23 : decode cX6_road 23 = .ok (.bipush 9, 2) := by decide +kernel
theorem dX6_road_25 : decode cX6_road 25 = .ok (.invokestatic 62, 3) := by decide +kernel
theorem dX6_road_28 : decode cX6_road 28 = .ok (.ifCond .ne 6, 3) := by decide +kernel
theorem dX6_road_31 : decode cX6_road 31 = .ok (.bipush (-2), 2) := by decide +kernel
theorem dX6_road_33 : decode cX6_road 33 = .ok (.ireturn, 1) := by decide +kernel
theorem dX6_road_34 : decode cX6_road 34 = .ok (.aload_n 0, 1) := by decide +kernel
theorem dX6_road_35 : decode cX6_road 35 = .ok (.getfield 12, 3) := by decide +kernel
theorem dX6_road_38 : decode cX6_road 38 = .ok (.iload_n 1, 1) := by decide +kernel
theorem dX6_road_39 : decode cX6_road 39 = .ok (.iload_n 2, 1) := by decide +kernel
theorem dX6_road_40 : decode cX6_road 40 = .ok (.invokevirtual 66, 3) := by decide +kernel
theorem dX6_road_43 : decode cX6_road 43 = .ok (.istore 4, 2) := by decide +kernel
theorem dX6_road_45 : decode cX6_road 45 = .ok (.aload_n 0, 1) := by decide +kernel
theorem dX6_road_46 : decode cX6_road 46 = .ok (.getfield 12, 3) := by decide +kernel
theorem dX6_road_49 : decode cX6_road 49 = .ok (.iload_n 1, 1) := by decide +kernel
theorem dX6_road_50 : decode cX6_road 50 = .ok (.iload_n 2, 1) := by decide +kernel
theorem dX6_road_51 : decode cX6_road 51 = .ok (.iload_n 3, 1) := by decide +kernel
theorem dX6_road_52 : decode cX6_road 52 = .ok (.invokevirtual 70, 3) := by decide +kernel
theorem dX6_road_55 : decode cX6_road 55 = .ok (.iload 4, 2) := by decide +kernel
theorem dX6_road_57 : decode cX6_road 57 = .ok (.ireturn, 1) := by decide +kernel
set_option maxRecDepth 20000 in
theorem ggX6_house_X6_isHouse : GoodIn wsX6_house wsX6_isHouse := goodIn_r _ [5] (by decide +kernel) (by decide +kernel)
set_option maxRecDepth 20000 in
theorem gX6_house_X6_isHouse : GoodIn wsX6_house (va_wsS RX6 74 yX6_isHouse wsX6_isHouse) := goodIn_app (goodIn_of _ (by decide +kernel)) ggX6_house_X6_isHouse
set_option maxRecDepth 20000 in
theorem ggX6_house_X6_within : GoodIn wsX6_house wsX6_within := goodIn_r _ [8] (by decide +kernel) (by decide +kernel)
set_option maxRecDepth 20000 in
theorem gX6_house_X6_within : GoodIn wsX6_house (va_wsS RX6 62 yX6_within wsX6_within) := goodIn_app (goodIn_of _ (by decide +kernel)) ggX6_house_X6_within
set_option maxRecDepth 20000 in
theorem ggX6_house_X1_doubtOf : GoodIn wsX6_house wsX1_doubtOf := goodIn_r _ [13, 14, 3, 4, 5, 28, 29, 30, 31, 32, 33, 34, 35, 36, 37, 38, 39] (by decide +kernel) (by decide +kernel)
set_option maxRecDepth 20000 in
theorem gX6_house_X1_doubtOf : GoodIn wsX6_house (wsV RX6 77 RX1 yX1_doubtOf wsX1_doubtOf) := goodIn_app (goodIn_of _ (by decide +kernel)) ggX6_house_X1_doubtOf
set_option maxRecDepth 20000 in
theorem ggX6_house_X1_furnish : GoodIn wsX6_house wsX1_furnish := goodIn_r _ [18, 14, 19, 3, 4, 5, 28, 29, 30, 31, 32, 33, 34, 35, 36, 37, 38, 39] (by decide +kernel) (by decide +kernel)
set_option maxRecDepth 20000 in
theorem gX6_house_X1_furnish : GoodIn wsX6_house (wsV RX6 81 RX1 yX1_furnish wsX1_furnish) := goodIn_app (goodIn_of _ (by decide +kernel)) ggX6_house_X1_furnish
theorem dX6_house_0 : decode cX6_house 0 = .ok (.iload_n 1, 1) := by decide +kernel
theorem dX6_house_1 : decode cX6_house 1 = .ok (.invokestatic 74, 3) := by decide +kernel
theorem dX6_house_4 : decode cX6_house 4 = .ok (.ifCond .ne 5, 3) := by decide +kernel
theorem dX6_house_7 : decode cX6_house 7 = .ok (.iconst (-1), 1) := by decide +kernel
theorem dX6_house_8 : decode cX6_house 8 = .ok (.ireturn, 1) := by decide +kernel
theorem dX6_house_9 : decode cX6_house 9 = .ok (.iload_n 2, 1) := by decide +kernel
theorem dX6_house_10 : decode cX6_house 10 = .ok (.iconst 0, 1) := by decide +kernel
theorem dX6_house_11 : decode cX6_house 11 = .ok (.bipush 9, 2) := by decide +kernel
theorem dX6_house_13 : decode cX6_house 13 = .ok (.invokestatic 62, 3) := by decide +kernel
theorem dX6_house_16 : decode cX6_house 16 = .ok (.ifCond .eq 12, 3) := by decide +kernel
theorem dX6_house_19 : decode cX6_house 19 = .ok (.iload_n 3, 1) := by decide +kernel
theorem dX6_house_20 : decode cX6_house 20 = .ok (.iconst 0, 1) := by decide +kernel
theorem dX6_house_21 : decode cX6_house 21 = .ok (.iconst 1, 1) := by decide +kernel
theorem dX6_house_22 : decode cX6_house 22 = .ok (.invokestatic 62, 3) := by decide +kernel
theorem dX6_house_25 : decode cX6_house 25 = .ok (.ifCond .ne 6, 3) := by decide +kernel
theorem dX6_house_28 : decode cX6_house 28 = .ok (.bipush (-2), 2) := by decide +kernel
theorem dX6_house_30 : decode cX6_house 30 = .ok (.ireturn, 1) := by decide +kernel
theorem dX6_house_31 : decode cX6_house 31 = .ok (.aload_n 0, 1) := by decide +kernel
theorem dX6_house_32 : decode cX6_house 32 = .ok (.getfield 12, 3) := by decide +kernel
theorem dX6_house_35 : decode cX6_house 35 = .ok (.iload_n 1, 1) := by decide +kernel
theorem dX6_house_36 : decode cX6_house 36 = .ok (.invokevirtual 77, 3) := by decide +kernel
theorem dX6_house_39 : decode cX6_house 39 = .ok (.istore 4, 2) := by decide +kernel
theorem dX6_house_41 : decode cX6_house 41 = .ok (.aload_n 0, 1) := by decide +kernel
theorem dX6_house_42 : decode cX6_house 42 = .ok (.getfield 12, 3) := by decide +kernel
theorem dX6_house_45 : decode cX6_house 45 = .ok (.iload_n 1, 1) := by decide +kernel
theorem dX6_house_46 : decode cX6_house 46 = .ok (.iload_n 2, 1) := by decide +kernel
theorem dX6_house_47 : decode cX6_house 47 = .ok (.iload_n 3, 1) := by decide +kernel
theorem dX6_house_48 : decode cX6_house 48 = .ok (.invokevirtual 81, 3) := by decide +kernel
theorem dX6_house_51 : decode cX6_house 51 = .ok (.iload 4, 2) := by decide +kernel
theorem dX6_house_53 : decode cX6_house 53 = .ok (.ireturn, 1) := by decide +kernel
set_option maxRecDepth 20000 in
theorem ggX6_tell_X6_isHouse : GoodIn wsX6_tell wsX6_isHouse := goodIn_r _ [5] (by decide +kernel) (by decide +kernel)
set_option maxRecDepth 20000 in
theorem gX6_tell_X6_isHouse : GoodIn wsX6_tell (va_wsS RX6 74 yX6_isHouse wsX6_isHouse) := goodIn_app (goodIn_of _ (by decide +kernel)) ggX6_tell_X6_isHouse
set_option maxRecDepth 20000 in
theorem ggX6_tell_X6_isTale : GoodIn wsX6_tell wsX6_isTale := goodIn_r _ [8] (by decide +kernel) (by decide +kernel)
set_option maxRecDepth 20000 in
theorem gX6_tell_X6_isTale : GoodIn wsX6_tell (va_wsS RX6 84 yX6_isTale wsX6_isTale) := goodIn_app (goodIn_of _ (by decide +kernel)) ggX6_tell_X6_isTale
set_option maxRecDepth 20000 in
theorem ggX6_tell_X1_beliefOf : GoodIn wsX6_tell wsX1_beliefOf := goodIn_r _ [13, 14, 3, 4, 5, 27, 28, 29, 30, 31, 32, 33, 34, 35, 36, 37, 38] (by decide +kernel) (by decide +kernel)
set_option maxRecDepth 20000 in
theorem gX6_tell_X1_beliefOf : GoodIn wsX6_tell (wsV RX6 87 RX1 yX1_beliefOf wsX1_beliefOf) := goodIn_app (goodIn_of _ (by decide +kernel)) ggX6_tell_X1_beliefOf
set_option maxRecDepth 20000 in
theorem ggX6_tell_X1_convince : GoodIn wsX6_tell wsX1_convince := goodIn_r _ [18, 14, 3, 4, 5, 27, 28, 29, 30, 31, 32, 33, 34, 35, 36, 37, 38] (by decide +kernel) (by decide +kernel)
set_option maxRecDepth 20000 in
theorem gX6_tell_X1_convince : GoodIn wsX6_tell (wsV RX6 90 RX1 yX1_convince wsX1_convince) := goodIn_app (goodIn_of _ (by decide +kernel)) ggX6_tell_X1_convince
theorem dX6_tell_0 : decode cX6_tell 0 = .ok (.iload_n 1, 1) := by decide +kernel
theorem dX6_tell_1 : decode cX6_tell 1 = .ok (.invokestatic 74, 3) := by decide +kernel
theorem dX6_tell_4 : decode cX6_tell 4 = .ok (.ifCond .eq 15, 3) := by decide +kernel
theorem dX6_tell_7 : decode cX6_tell 7 = .ok (.iload_n 2, 1) := by decide +kernel
theorem dX6_tell_8 : decode cX6_tell 8 = .ok (.invokestatic 84, 3) := by decide +kernel
theorem dX6_tell_11 : decode cX6_tell 11 = .ok (.ifCond .ne 10, 3) := by decide +kernel
theorem dX6_tell_14 : decode cX6_tell 14 = .ok (.iload_n 2, 1) := by decide +kernel
theorem dX6_tell_15 : decode cX6_tell 15 = .ok (.iconst (-1), 1) := by decide +kernel
theorem dX6_tell_16 : decode cX6_tell 16 = .ok (.if_icmp .eq 5, 3) := by decide +kernel
theorem dX6_tell_19 : decode cX6_tell 19 = .ok (.iconst (-1), 1) := by decide +kernel
theorem dX6_tell_20 : decode cX6_tell 20 = .ok (.ireturn, 1) := by decide +kernel
theorem dX6_tell_21 : decode cX6_tell 21 = .ok (.aload_n 0, 1) := by decide +kernel
theorem dX6_tell_22 : decode cX6_tell 22 = .ok (.getfield 12, 3) := by decide +kernel
theorem dX6_tell_25 : decode cX6_tell 25 = .ok (.iload_n 1, 1) := by decide +kernel
theorem dX6_tell_26 : decode cX6_tell 26 = .ok (.invokevirtual 87, 3) := by decide +kernel
theorem dX6_tell_29 : decode cX6_tell 29 = .ok (.istore_n 3, 1) := by decide +kernel
theorem dX6_tell_30 : decode cX6_tell 30 = .ok (.aload_n 0, 1) := by decide +kernel
theorem dX6_tell_31 : decode cX6_tell 31 = .ok (.getfield 12, 3) := by decide +kernel
theorem dX6_tell_34 : decode cX6_tell 34 = .ok (.iload_n 1, 1) := by decide +kernel
theorem dX6_tell_35 : decode cX6_tell 35 = .ok (.iload_n 2, 1) := by decide +kernel
theorem dX6_tell_36 : decode cX6_tell 36 = .ok (.iconst (-1), 1) := by decide +kernel
theorem dX6_tell_37 : decode cX6_tell 37 = .ok (.if_icmp .ne 8, 3) := by decide +kernel
theorem dX6_tell_40 : decode cX6_tell 40 = .ok (.bipush (-6), 2) := by decide +kernel
theorem dX6_tell_42 : decode cX6_tell 42 = .ok (.goto 4, 3) := by decide +kernel
theorem dX6_tell_45 : decode cX6_tell 45 = .ok (.iload_n 2, 1) := by decide +kernel
theorem dX6_tell_46 : decode cX6_tell 46 = .ok (.invokevirtual 90, 3) := by decide +kernel
theorem dX6_tell_49 : decode cX6_tell 49 = .ok (.iload_n 3, 1) := by decide +kernel
theorem dX6_tell_50 : decode cX6_tell 50 = .ok (.ireturn, 1) := by decide +kernel
set_option maxRecDepth 20000 in
theorem ggX6_fade_X6_isTale : GoodIn wsX6_fade wsX6_isTale := goodIn_r _ [5] (by decide +kernel) (by decide +kernel)
set_option maxRecDepth 20000 in
theorem gX6_fade_X6_isTale : GoodIn wsX6_fade (va_wsS RX6 84 yX6_isTale wsX6_isTale) := goodIn_app (goodIn_of _ (by decide +kernel)) ggX6_fade_X6_isTale
set_option maxRecDepth 20000 in
theorem ggX6_fade_X1_fadesInto : GoodIn wsX6_fade wsX1_fadesInto := goodIn_r _ [10, 11, 3, 4, 5, 24, 25, 26, 27, 28, 29, 30, 31, 32, 33, 34, 35] (by decide +kernel) (by decide +kernel)
set_option maxRecDepth 20000 in
theorem gX6_fade_X1_fadesInto : GoodIn wsX6_fade (wsV RX6 94 RX1 yX1_fadesInto wsX1_fadesInto) := goodIn_app (goodIn_of _ (by decide +kernel)) ggX6_fade_X1_fadesInto
set_option maxRecDepth 20000 in
theorem ggX6_fade_X1_letFade : GoodIn wsX6_fade wsX1_letFade := goodIn_r _ [15, 11, 3, 4, 5, 24, 25, 26, 27, 28, 29, 30, 31, 32, 33, 34, 35] (by decide +kernel) (by decide +kernel)
set_option maxRecDepth 20000 in
theorem gX6_fade_X1_letFade : GoodIn wsX6_fade (wsV RX6 97 RX1 yX1_letFade wsX1_letFade) := goodIn_app (goodIn_of _ (by decide +kernel)) ggX6_fade_X1_letFade
theorem dX6_fade_0 : decode cX6_fade 0 = .ok (.iload_n 1, 1) := by decide +kernel
theorem dX6_fade_1 : decode cX6_fade 1 = .ok (.invokestatic 84, 3) := by decide +kernel
theorem dX6_fade_4 : decode cX6_fade 4 = .ok (.ifCond .eq 10, 3) := by decide +kernel
theorem dX6_fade_7 : decode cX6_fade 7 = .ok (.iload_n 2, 1) := by decide +kernel
theorem dX6_fade_8 : decode cX6_fade 8 = .ok (.invokestatic 84, 3) := by decide +kernel
theorem dX6_fade_11 : decode cX6_fade 11 = .ok (.ifCond .ne 5, 3) := by decide +kernel
theorem dX6_fade_14 : decode cX6_fade 14 = .ok (.iconst (-1), 1) := by decide +kernel
theorem dX6_fade_15 : decode cX6_fade 15 = .ok (.ireturn, 1) := by decide +kernel
theorem dX6_fade_16 : decode cX6_fade 16 = .ok (.aload_n 0, 1) := by decide +kernel
theorem dX6_fade_17 : decode cX6_fade 17 = .ok (.getfield 12, 3) := by decide +kernel
theorem dX6_fade_20 : decode cX6_fade 20 = .ok (.iload_n 1, 1) := by decide +kernel
theorem dX6_fade_21 : decode cX6_fade 21 = .ok (.invokevirtual 94, 3) := by decide +kernel
theorem dX6_fade_24 : decode cX6_fade 24 = .ok (.istore_n 3, 1) := by decide +kernel
theorem dX6_fade_25 : decode cX6_fade 25 = .ok (.aload_n 0, 1) := by decide +kernel
theorem dX6_fade_26 : decode cX6_fade 26 = .ok (.getfield 12, 3) := by decide +kernel
theorem dX6_fade_29 : decode cX6_fade 29 = .ok (.iload_n 1, 1) := by decide +kernel
theorem dX6_fade_30 : decode cX6_fade 30 = .ok (.iload_n 2, 1) := by decide +kernel
theorem dX6_fade_31 : decode cX6_fade 31 = .ok (.invokevirtual 97, 3) := by decide +kernel
theorem dX6_fade_34 : decode cX6_fade 34 = .ok (.iload_n 3, 1) := by decide +kernel
theorem dX6_fade_35 : decode cX6_fade 35 = .ok (.ireturn, 1) := by decide +kernel
set_option maxRecDepth 20000 in
theorem ggX6_say_X6_within : GoodIn wsX6_say wsX6_within := goodIn_r _ [5] (by decide +kernel) (by decide +kernel)
set_option maxRecDepth 20000 in
theorem gX6_say_X6_within : GoodIn wsX6_say (va_wsS RX6 62 yX6_within wsX6_within) := goodIn_app (goodIn_of _ (by decide +kernel)) ggX6_say_X6_within
set_option maxRecDepth 20000 in
theorem ggX6_say_X3_add : GoodIn wsX6_say wsX3_add := goodIn_r _ [10, 11, 12, 3, 4, 5, 25, 26] (by decide +kernel) (by decide +kernel)
set_option maxRecDepth 20000 in
theorem gX6_say_X3_add : GoodIn wsX6_say (wsV RX6 100 RX3 yX3_add wsX3_add) := goodIn_app (goodIn_of _ (by decide +kernel)) ggX6_say_X3_add
set_option maxRecDepth 20000 in
theorem ggX6_say_X3_size : GoodIn wsX6_say wsX3_size := goodIn_r _ [16, 11, 25, 26] (by decide +kernel) (by decide +kernel)
set_option maxRecDepth 20000 in
theorem gX6_say_X3_size : GoodIn wsX6_say (wsV RX6 103 RX3 yX3_size wsX3_size) := goodIn_app (goodIn_of _ (by decide +kernel)) ggX6_say_X3_size
theorem dX6_say_0 : decode cX6_say 0 = .ok (.iload_n 1, 1) := by decide +kernel
theorem dX6_say_1 : decode cX6_say 1 = .ok (.bipush 33, 2) := by decide +kernel
theorem dX6_say_3 : decode cX6_say 3 = .ok (.bipush 126, 2) := by decide +kernel
theorem dX6_say_5 : decode cX6_say 5 = .ok (.invokestatic 62, 3) := by decide +kernel
theorem dX6_say_8 : decode cX6_say 8 = .ok (.ifCond .ne 6, 3) := by decide +kernel
theorem dX6_say_11 : decode cX6_say 11 = .ok (.bipush (-2), 2) := by decide +kernel
theorem dX6_say_13 : decode cX6_say 13 = .ok (.ireturn, 1) := by decide +kernel
theorem dX6_say_14 : decode cX6_say 14 = .ok (.aload_n 0, 1) := by decide +kernel
theorem dX6_say_15 : decode cX6_say 15 = .ok (.getfield 26, 3) := by decide +kernel
theorem dX6_say_18 : decode cX6_say 18 = .ok (.iload_n 1, 1) := by decide +kernel
theorem dX6_say_19 : decode cX6_say 19 = .ok (.invokevirtual 100, 3) := by decide +kernel
theorem dX6_say_22 : decode cX6_say 22 = .ok (.ifCond .eq 13, 3) := by decide +kernel
theorem dX6_say_25 : decode cX6_say 25 = .ok (.aload_n 0, 1) := by decide +kernel
theorem dX6_say_26 : decode cX6_say 26 = .ok (.getfield 26, 3) := by decide +kernel
theorem dX6_say_29 : decode cX6_say 29 = .ok (.invokevirtual 103, 3) := by decide +kernel
theorem dX6_say_32 : decode cX6_say 32 = .ok (.goto 5, 3) := by decide +kernel
theorem dX6_say_35 : decode cX6_say 35 = .ok (.bipush (-4), 2) := by decide +kernel
theorem dX6_say_37 : decode cX6_say 37 = .ok (.ireturn, 1) := by decide +kernel
set_option maxRecDepth 20000 in
theorem ggX6_wipe_X3_size : GoodIn wsX6_wipe wsX3_size := goodIn_r _ [6, 7, 20, 21] (by decide +kernel) (by decide +kernel)
set_option maxRecDepth 20000 in
theorem gX6_wipe_X3_size : GoodIn wsX6_wipe (wsV RX6 103 RX3 yX3_size wsX3_size) := goodIn_app (goodIn_of _ (by decide +kernel)) ggX6_wipe_X3_size
set_option maxRecDepth 20000 in
theorem ggX6_wipe_X3_clear : GoodIn wsX6_wipe wsX3_clear := goodIn_r _ [11, 7, 20, 21] (by decide +kernel) (by decide +kernel)
set_option maxRecDepth 20000 in
theorem gX6_wipe_X3_clear : GoodIn wsX6_wipe (wsV RX6 107 RX3 yX3_clear wsX3_clear) := goodIn_app (goodIn_of _ (by decide +kernel)) ggX6_wipe_X3_clear
theorem dX6_wipe_0 : decode cX6_wipe 0 = .ok (.aload_n 0, 1) := by decide +kernel
theorem dX6_wipe_1 : decode cX6_wipe 1 = .ok (.getfield 26, 3) := by decide +kernel
theorem dX6_wipe_4 : decode cX6_wipe 4 = .ok (.invokevirtual 103, 3) := by decide +kernel
theorem dX6_wipe_7 : decode cX6_wipe 7 = .ok (.istore_n 1, 1) := by decide +kernel
theorem dX6_wipe_8 : decode cX6_wipe 8 = .ok (.aload_n 0, 1) := by decide +kernel
theorem dX6_wipe_9 : decode cX6_wipe 9 = .ok (.getfield 26, 3) := by decide +kernel
theorem dX6_wipe_12 : decode cX6_wipe 12 = .ok (.invokevirtual 107, 3) := by decide +kernel
theorem dX6_wipe_15 : decode cX6_wipe 15 = .ok (.iload_n 1, 1) := by decide +kernel
theorem dX6_wipe_16 : decode cX6_wipe 16 = .ok (.ireturn, 1) := by decide +kernel
set_option maxRecDepth 20000 in
theorem ggX6_judge_X6_within : GoodIn wsX6_judge wsX6_within := goodIn_r _ [8] (by decide +kernel) (by decide +kernel)
set_option maxRecDepth 20000 in
theorem gX6_judge_X6_within : GoodIn wsX6_judge (va_wsS RX6 62 yX6_within wsX6_within) := goodIn_app (goodIn_of _ (by decide +kernel)) ggX6_judge_X6_within
set_option maxRecDepth 20000 in
theorem ggX6_judge_X2_pass : GoodIn wsX6_judge wsX2_pass := goodIn_r _ [13, 14, 15, 16, 17, 18, 19, 20, 21, 22, 23, 24, 25, 26, 27, 28, 29, 30, 31, 32, 33, 34, 6, 7, 8, 35, 36, 37, 38, 39, 40, 41, 42, 43, 44, 45, 46, 47, 48, 49, 50, 51, 52, 53, 54, 55, 56, 57, 58, 59, 60, 61, 62, 63, 64, 65, 66, 67, 68, 69, 70, 71, 72, 73, 74, 75, 76, 77, 78, 79, 80, 81, 82, 83, 84, 85, 86, 12, 87, 88, 89, 90, 91, 92, 93, 94, 95, 96, 97, 98, 99, 100, 101, 102, 103, 104, 105, 106, 107, 108, 109, 110, 111, 112, 113, 114, 115, 116, 117, 118, 119, 120, 121, 122, 123, 124, 125, 126, 127, 128, 129, 130, 131, 132, 133, 134, 135, 136, 137, 138, 139, 140, 141, 142, 151, 152, 153, 154, 155, 156, 157, 158, 159, 160, 161, 162, 163, 164, 165, 166, 167, 168, 169, 170] (by decide +kernel) (by decide +kernel)
set_option maxRecDepth 20000 in
theorem gX6_judge_X2_pass : GoodIn wsX6_judge (wsV RX6 113 RX2 yX2_pass wsX2_pass) := goodIn_app (goodIn_of _ (by decide +kernel)) ggX6_judge_X2_pass
theorem dX6_judge_0 : decode cX6_judge 0 = .ok (.iload_n 1, 1) := by decide +kernel
theorem dX6_judge_1 : decode cX6_judge 1 = .ok (.iconst 0, 1) := by decide +kernel
theorem dX6_judge_2 : decode cX6_judge 2 = .ok (.iconst 2, 1) := by decide +kernel
theorem dX6_judge_3 : decode cX6_judge 3 = .ok (.invokestatic 62, 3) := by decide +kernel
theorem dX6_judge_6 : decode cX6_judge 6 = .ok (.ifCond .ne 6, 3) := by decide +kernel
theorem dX6_judge_9 : decode cX6_judge 9 = .ok (.bipush (-2), 2) := by decide +kernel
theorem dX6_judge_11 : decode cX6_judge 11 = .ok (.ireturn, 1) := by decide +kernel
theorem dX6_judge_12 : decode cX6_judge 12 = .ok (.aload_n 0, 1) := by decide +kernel
theorem dX6_judge_13 : decode cX6_judge 13 = .ok (.getfield 33, 3) := by decide +kernel
theorem dX6_judge_16 : decode cX6_judge 16 = .ok (.aload_n 0, 1) := by decide +kernel
theorem dX6_judge_17 : decode cX6_judge 17 = .ok (.getfield 26, 3) := by decide +kernel
theorem dX6_judge_20 : decode cX6_judge 20 = .ok (.aload_n 0, 1) := by decide +kernel
theorem dX6_judge_21 : decode cX6_judge 21 = .ok (.getfield 16, 3) := by decide +kernel
theorem dX6_judge_24 : decode cX6_judge 24 = .ok (.aload_n 0, 1) := by decide +kernel
theorem dX6_judge_25 : decode cX6_judge 25 = .ok (.getfield 12, 3) := by decide +kernel
theorem dX6_judge_28 : decode cX6_judge 28 = .ok (.invokevirtual 113, 3) := by decide +kernel
theorem dX6_judge_31 : decode cX6_judge 31 = .ok (.istore_n 2, 1) := by decide +kernel
theorem dX6_judge_32 : decode cX6_judge 32 = .ok (.iload_n 2, 1) := by decide +kernel
theorem dX6_judge_33 : decode cX6_judge 33 = .ok (.bipush (-5), 2) := by decide +kernel
theorem dX6_judge_35 : decode cX6_judge 35 = .ok (.if_icmp .eq 14, 3) := by decide +kernel
theorem dX6_judge_38 : decode cX6_judge 38 = .ok (.iload_n 2, 1) := by decide +kernel
theorem dX6_judge_39 : decode cX6_judge 39 = .ok (.bipush (-3), 2) := by decide +kernel
theorem dX6_judge_41 : decode cX6_judge 41 = .ok (.if_icmp .ne 10, 3) := by decide +kernel
theorem dX6_judge_44 : decode cX6_judge 44 = .ok (.iload_n 1, 1) := by decide +kernel
theorem dX6_judge_45 : decode cX6_judge 45 = .ok (.iconst 2, 1) := by decide +kernel
theorem dX6_judge_46 : decode cX6_judge 46 = .ok (.if_icmp .ne 5, 3) := by decide +kernel
theorem dX6_judge_49 : decode cX6_judge 49 = .ok (.iload_n 2, 1) := by decide +kernel
theorem dX6_judge_50 : decode cX6_judge 50 = .ok (.ireturn, 1) := by decide +kernel
theorem dX6_judge_51 : decode cX6_judge 51 = .ok (.iload_n 1, 1) := by decide +kernel
theorem dX6_judge_52 : decode cX6_judge 52 = .ok (.lookupswitch 44 #[(0, 28), (1, 36)], 28) := by decide +kernel
theorem dX6_judge_80 : decode cX6_judge 80 = .ok (.aload_n 0, 1) := by decide +kernel
theorem dX6_judge_81 : decode cX6_judge 81 = .ok (.getfield 33, 3) := by decide +kernel
theorem dX6_judge_84 : decode cX6_judge 84 = .ok (.getfield 117, 3) := by decide +kernel
theorem dX6_judge_87 : decode cX6_judge 87 = .ok (.ireturn, 1) := by decide +kernel
theorem dX6_judge_88 : decode cX6_judge 88 = .ok (.aload_n 0, 1) := by decide +kernel
theorem dX6_judge_89 : decode cX6_judge 89 = .ok (.getfield 33, 3) := by decide +kernel
theorem dX6_judge_92 : decode cX6_judge 92 = .ok (.getfield 121, 3) := by decide +kernel
theorem dX6_judge_95 : decode cX6_judge 95 = .ok (.ireturn, 1) := by decide +kernel
theorem dX6_judge_96 : decode cX6_judge 96 = .ok (.aload_n 0, 1) := by decide +kernel
theorem dX6_judge_97 : decode cX6_judge 97 = .ok (.getfield 33, 3) := by decide +kernel
theorem dX6_judge_100 : decode cX6_judge 100 = .ok (.getfield 124, 3) := by decide +kernel
theorem dX6_judge_103 : decode cX6_judge 103 = .ok (.ireturn, 1) := by decide +kernel
set_option maxRecDepth 20000 in
theorem ggX6_behind_X6_isHouse : GoodIn wsX6_behind wsX6_isHouse := goodIn_r _ [8] (by decide +kernel) (by decide +kernel)
set_option maxRecDepth 20000 in
theorem gX6_behind_X6_isHouse : GoodIn wsX6_behind (va_wsS RX6 74 yX6_isHouse wsX6_isHouse) := goodIn_app (goodIn_of _ (by decide +kernel)) ggX6_behind_X6_isHouse
set_option maxRecDepth 20000 in
theorem ggX6_behind_X6_within : GoodIn wsX6_behind wsX6_within := goodIn_r _ [11] (by decide +kernel) (by decide +kernel)
set_option maxRecDepth 20000 in
theorem gX6_behind_X6_within : GoodIn wsX6_behind (va_wsS RX6 62 yX6_within wsX6_within) := goodIn_app (goodIn_of _ (by decide +kernel)) ggX6_behind_X6_within
set_option maxRecDepth 20000 in
theorem ggX6_behind_X2_pass : GoodIn wsX6_behind wsX2_pass := goodIn_r _ [16, 17, 18, 19, 20, 21, 22, 23, 24, 25, 26, 27, 28, 29, 30, 31, 32, 33, 34, 35, 36, 37, 10, 7, 11, 38, 39, 40, 41, 42, 43, 44, 45, 46, 47, 48, 49, 50, 51, 52, 53, 54, 55, 56, 57, 58, 59, 60, 61, 62, 63, 64, 65, 66, 67, 68, 69, 70, 71, 72, 73, 74, 75, 76, 77, 78, 79, 80, 81, 82, 83, 84, 85, 86, 87, 88, 89, 15, 90, 91, 92, 93, 94, 95, 96, 97, 98, 6, 8, 99, 100, 101, 102, 103, 104, 105, 106, 107, 108, 109, 110, 111, 112, 113, 114, 115, 116, 117, 118, 119, 120, 121, 122, 123, 124, 125, 126, 127, 128, 129, 130, 131, 132, 133, 134, 135, 136, 137, 138, 139, 140, 141, 142, 143, 157, 158, 159, 160, 161, 162, 163, 164, 165, 166, 167, 168, 169, 170, 171, 172, 173, 174, 175, 176] (by decide +kernel) (by decide +kernel)
set_option maxRecDepth 20000 in
theorem gX6_behind_X2_pass : GoodIn wsX6_behind (wsV RX6 113 RX2 yX2_pass wsX2_pass) := goodIn_app (goodIn_of _ (by decide +kernel)) ggX6_behind_X2_pass
set_option maxRecDepth 20000 in
theorem ggX6_behind_X1_houseFact : GoodIn wsX6_behind wsX1_houseFact := goodIn_r _ [147, 148, 96, 97, 49, 98, 58, 6, 7, 8, 126, 127, 128, 129, 56, 114, 115, 116, 117, 57, 165, 166, 167, 168, 169, 170, 171, 172, 173, 174, 175, 176] (by decide +kernel) (by decide +kernel)
set_option maxRecDepth 20000 in
theorem gX6_behind_X1_houseFact : GoodIn wsX6_behind (wsV RX6 127 RX1 yX1_houseFact wsX1_houseFact) := goodIn_app (goodIn_of _ (by decide +kernel)) ggX6_behind_X1_houseFact
theorem dX6_behind_0 : decode cX6_behind 0 = .ok (.iload_n 1, 1) := by decide +kernel
theorem dX6_behind_1 : decode cX6_behind 1 = .ok (.invokestatic 74, 3) := by decide +kernel
theorem dX6_behind_4 : decode cX6_behind 4 = .ok (.ifCond .ne 5, 3) := by decide +kernel
theorem dX6_behind_7 : decode cX6_behind 7 = .ok (.iconst (-1), 1) := by decide +kernel
theorem dX6_behind_8 : decode cX6_behind 8 = .ok (.ireturn, 1) := by decide +kernel
theorem dX6_behind_9 : decode cX6_behind 9 = .ok (.iload_n 2, 1) := by decide +kernel
theorem dX6_behind_10 : decode cX6_behind 10 = .ok (.iconst 0, 1) := by decide +kernel
theorem dX6_behind_11 : decode cX6_behind 11 = .ok (.iconst 2, 1) := by decide +kernel
theorem dX6_behind_12 : decode cX6_behind 12 = .ok (.invokestatic 62, 3) := by decide +kernel
theorem dX6_behind_15 : decode cX6_behind 15 = .ok (.ifCond .ne 6, 3) := by decide +kernel
theorem dX6_behind_18 : decode cX6_behind 18 = .ok (.bipush (-2), 2) := by decide +kernel
theorem dX6_behind_20 : decode cX6_behind 20 = .ok (.ireturn, 1) := by decide +kernel
theorem dX6_behind_21 : decode cX6_behind 21 = .ok (.aload_n 0, 1) := by decide +kernel
theorem dX6_behind_22 : decode cX6_behind 22 = .ok (.getfield 33, 3) := by decide +kernel
theorem dX6_behind_25 : decode cX6_behind 25 = .ok (.aload_n 0, 1) := by decide +kernel
theorem dX6_behind_26 : decode cX6_behind 26 = .ok (.getfield 26, 3) := by decide +kernel
theorem dX6_behind_29 : decode cX6_behind 29 = .ok (.aload_n 0, 1) := by decide +kernel
theorem dX6_behind_30 : decode cX6_behind 30 = .ok (.getfield 16, 3) := by decide +kernel
theorem dX6_behind_33 : decode cX6_behind 33 = .ok (.aload_n 0, 1) := by decide +kernel
theorem dX6_behind_34 : decode cX6_behind 34 = .ok (.getfield 12, 3) := by decide +kernel
theorem dX6_behind_37 : decode cX6_behind 37 = .ok (.invokevirtual 113, 3) := by decide +kernel
theorem dX6_behind_40 : decode cX6_behind 40 = .ok (.istore_n 3, 1) := by decide +kernel
theorem dX6_behind_41 : decode cX6_behind 41 = .ok (.iload_n 3, 1) := by decide +kernel
theorem dX6_behind_42 : decode cX6_behind 42 = .ok (.ifCond .ne 15, 3) := by decide +kernel
theorem dX6_behind_45 : decode cX6_behind 45 = .ok (.aload_n 0, 1) := by decide +kernel
theorem dX6_behind_46 : decode cX6_behind 46 = .ok (.getfield 16, 3) := by decide +kernel
theorem dX6_behind_49 : decode cX6_behind 49 = .ok (.iload_n 1, 1) := by decide +kernel
theorem dX6_behind_50 : decode cX6_behind 50 = .ok (.iload_n 2, 1) := by decide +kernel
theorem dX6_behind_51 : decode cX6_behind 51 = .ok (.invokevirtual 127, 3) := by decide +kernel
theorem dX6_behind_54 : decode cX6_behind 54 = .ok (.goto 4, 3) := by decide +kernel
theorem dX6_behind_57 : decode cX6_behind 57 = .ok (.iload_n 3, 1) := by decide +kernel
theorem dX6_behind_58 : decode cX6_behind 58 = .ok (.ireturn, 1) := by decide +kernel
set_option maxRecDepth 20000 in
theorem ggX6_pan_X6_within : GoodIn wsX6_pan wsX6_within := goodIn_r _ [8] (by decide +kernel) (by decide +kernel)
set_option maxRecDepth 20000 in
theorem gX6_pan_X6_within : GoodIn wsX6_pan (va_wsS RX6 62 yX6_within wsX6_within) := goodIn_app (goodIn_of _ (by decide +kernel)) ggX6_pan_X6_within
set_option maxRecDepth 20000 in
theorem ggX6_pan_X2_pass : GoodIn wsX6_pan wsX2_pass := goodIn_r _ [13, 14, 15, 16, 17, 18, 19, 20, 21, 22, 23, 24, 25, 26, 27, 28, 29, 30, 31, 32, 33, 34, 6, 7, 8, 35, 36, 37, 38, 39, 40, 41, 42, 43, 44, 45, 46, 47, 48, 49, 50, 51, 52, 53, 54, 55, 56, 57, 58, 59, 60, 61, 62, 63, 64, 65, 66, 67, 68, 69, 70, 71, 72, 73, 74, 75, 76, 77, 78, 79, 80, 81, 82, 83, 84, 85, 86, 12, 87, 88, 89, 90, 91, 92, 93, 94, 95, 96, 97, 98, 99, 100, 101, 102, 103, 104, 105, 106, 107, 108, 109, 110, 111, 112, 113, 114, 115, 116, 117, 118, 119, 120, 121, 122, 123, 124, 125, 126, 127, 128, 129, 130, 131, 132, 133, 134, 135, 136, 137, 138, 139, 140, 141, 142, 152, 153, 154, 155, 156, 157, 158, 159, 160, 161, 162, 163, 164, 165, 166, 167, 168, 169, 170, 171] (by decide +kernel) (by decide +kernel)
set_option maxRecDepth 20000 in
theorem gX6_pan_X2_pass : GoodIn wsX6_pan (wsV RX6 113 RX2 yX2_pass wsX2_pass) := goodIn_app (goodIn_of _ (by decide +kernel)) ggX6_pan_X2_pass
set_option maxRecDepth 20000 in
theorem ggX6_pan_X1_panFact : GoodIn wsX6_pan wsX1_panFact := goodIn_r _ [91, 60, 61, 62, 63, 160, 161, 162, 163, 164, 165, 166, 167, 168, 169, 170, 171] (by decide +kernel) (by decide +kernel)
set_option maxRecDepth 20000 in
theorem gX6_pan_X1_panFact : GoodIn wsX6_pan (wsV RX6 130 RX1 yX1_panFact wsX1_panFact) := goodIn_app (goodIn_of _ (by decide +kernel)) ggX6_pan_X1_panFact
theorem dX6_pan_0 : decode cX6_pan 0 = .ok (.iload_n 1, 1) := by decide +kernel
theorem dX6_pan_1 : decode cX6_pan 1 = .ok (.iconst 0, 1) := by decide +kernel
theorem dX6_pan_2 : decode cX6_pan 2 = .ok (.iconst 3, 1) := by decide +kernel
theorem dX6_pan_3 : decode cX6_pan 3 = .ok (.invokestatic 62, 3) := by decide +kernel
theorem dX6_pan_6 : decode cX6_pan 6 = .ok (.ifCond .ne 6, 3) := by decide +kernel
theorem dX6_pan_9 : decode cX6_pan 9 = .ok (.bipush (-2), 2) := by decide +kernel
theorem dX6_pan_11 : decode cX6_pan 11 = .ok (.ireturn, 1) := by decide +kernel
theorem dX6_pan_12 : decode cX6_pan 12 = .ok (.aload_n 0, 1) := by decide +kernel
theorem dX6_pan_13 : decode cX6_pan 13 = .ok (.getfield 33, 3) := by decide +kernel
theorem dX6_pan_16 : decode cX6_pan 16 = .ok (.aload_n 0, 1) := by decide +kernel
theorem dX6_pan_17 : decode cX6_pan 17 = .ok (.getfield 26, 3) := by decide +kernel
theorem dX6_pan_20 : decode cX6_pan 20 = .ok (.aload_n 0, 1) := by decide +kernel
theorem dX6_pan_21 : decode cX6_pan 21 = .ok (.getfield 16, 3) := by decide +kernel
theorem dX6_pan_24 : decode cX6_pan 24 = .ok (.aload_n 0, 1) := by decide +kernel
theorem dX6_pan_25 : decode cX6_pan 25 = .ok (.getfield 12, 3) := by decide +kernel
theorem dX6_pan_28 : decode cX6_pan 28 = .ok (.invokevirtual 113, 3) := by decide +kernel
theorem dX6_pan_31 : decode cX6_pan 31 = .ok (.istore_n 2, 1) := by decide +kernel
theorem dX6_pan_32 : decode cX6_pan 32 = .ok (.iload_n 2, 1) := by decide +kernel
theorem dX6_pan_33 : decode cX6_pan 33 = .ok (.ifCond .ne 14, 3) := by decide +kernel
theorem dX6_pan_36 : decode cX6_pan 36 = .ok (.aload_n 0, 1) := by decide +kernel
theorem dX6_pan_37 : decode cX6_pan 37 = .ok (.getfield 16, 3) := by decide +kernel
theorem dX6_pan_40 : decode cX6_pan 40 = .ok (.iload_n 1, 1) := by decide +kernel
theorem dX6_pan_41 : decode cX6_pan 41 = .ok (.invokevirtual 130, 3) := by decide +kernel
theorem dX6_pan_44 : decode cX6_pan 44 = .ok (.goto 4, 3) := by decide +kernel
theorem dX6_pan_47 : decode cX6_pan 47 = .ok (.iload_n 2, 1) := by decide +kernel
theorem dX6_pan_48 : decode cX6_pan 48 = .ok (.ireturn, 1) := by decide +kernel
set_option maxRecDepth 20000 in
theorem ggX6_holds_X6_isTale : GoodIn wsX6_holds wsX6_isTale := goodIn_r _ [8] (by decide +kernel) (by decide +kernel)
set_option maxRecDepth 20000 in
theorem gX6_holds_X6_isTale : GoodIn wsX6_holds (va_wsS RX6 84 yX6_isTale wsX6_isTale) := goodIn_app (goodIn_of _ (by decide +kernel)) ggX6_holds_X6_isTale
set_option maxRecDepth 20000 in
theorem ggX6_holds_X2_pass : GoodIn wsX6_holds wsX2_pass := goodIn_r _ [13, 14, 15, 16, 17, 18, 19, 20, 21, 22, 23, 24, 25, 26, 27, 28, 29, 30, 31, 32, 33, 34, 35, 7, 36, 37, 38, 39, 40, 41, 42, 43, 44, 45, 46, 47, 48, 49, 50, 51, 52, 53, 54, 55, 56, 57, 58, 59, 60, 61, 62, 63, 64, 65, 66, 67, 68, 69, 70, 71, 72, 73, 74, 75, 76, 77, 78, 79, 80, 81, 82, 83, 84, 85, 86, 87, 88, 12, 89, 90, 91, 92, 93, 94, 95, 96, 97, 98, 99, 100, 101, 102, 103, 104, 105, 106, 107, 108, 109, 110, 111, 112, 113, 114, 115, 116, 117, 118, 119, 120, 121, 122, 123, 124, 125, 126, 127, 128, 129, 130, 131, 132, 133, 134, 135, 136, 137, 138, 6, 8, 139, 140, 141, 142, 155, 156, 157, 158, 159, 160, 161, 162, 163, 164, 165, 166, 167, 168, 169, 170, 171, 172, 173, 174] (by decide +kernel) (by decide +kernel)
set_option maxRecDepth 20000 in
theorem gX6_holds_X2_pass : GoodIn wsX6_holds (wsV RX6 113 RX2 yX2_pass wsX2_pass) := goodIn_app (goodIn_of _ (by decide +kernel)) ggX6_holds_X2_pass
set_option maxRecDepth 20000 in
theorem ggX6_holds_X1_believersOf : GoodIn wsX6_holds wsX1_believersOf := goodIn_r _ [146, 57, 163, 164, 165, 166, 167, 168, 169, 170, 171, 172, 173, 174] (by decide +kernel) (by decide +kernel)
set_option maxRecDepth 20000 in
theorem gX6_holds_X1_believersOf : GoodIn wsX6_holds (wsV RX6 133 RX1 yX1_believersOf wsX1_believersOf) := goodIn_app (goodIn_of _ (by decide +kernel)) ggX6_holds_X1_believersOf
theorem dX6_holds_0 : decode cX6_holds 0 = .ok (.iload_n 1, 1) := by decide +kernel
theorem dX6_holds_1 : decode cX6_holds 1 = .ok (.invokestatic 84, 3) := by decide +kernel
theorem dX6_holds_4 : decode cX6_holds 4 = .ok (.ifCond .ne 5, 3) := by decide +kernel
theorem dX6_holds_7 : decode cX6_holds 7 = .ok (.iconst (-1), 1) := by decide +kernel
theorem dX6_holds_8 : decode cX6_holds 8 = .ok (.ireturn, 1) := by decide +kernel
theorem dX6_holds_9 : decode cX6_holds 9 = .ok (.aload_n 0, 1) := by decide +kernel
theorem dX6_holds_10 : decode cX6_holds 10 = .ok (.getfield 33, 3) := by decide +kernel
theorem dX6_holds_13 : decode cX6_holds 13 = .ok (.aload_n 0, 1) := by decide +kernel
theorem dX6_holds_14 : decode cX6_holds 14 = .ok (.getfield 26, 3) := by decide +kernel
theorem dX6_holds_17 : decode cX6_holds 17 = .ok (.aload_n 0, 1) := by decide +kernel
theorem dX6_holds_18 : decode cX6_holds 18 = .ok (.getfield 16, 3) := by decide +kernel
theorem dX6_holds_21 : decode cX6_holds 21 = .ok (.aload_n 0, 1) := by decide +kernel
theorem dX6_holds_22 : decode cX6_holds 22 = .ok (.getfield 12, 3) := by decide +kernel
theorem dX6_holds_25 : decode cX6_holds 25 = .ok (.invokevirtual 113, 3) := by decide +kernel
theorem dX6_holds_28 : decode cX6_holds 28 = .ok (.istore_n 2, 1) := by decide +kernel
theorem dX6_holds_29 : decode cX6_holds 29 = .ok (.iload_n 2, 1) := by decide +kernel
theorem dX6_holds_30 : decode cX6_holds 30 = .ok (.ifCond .ne 14, 3) := by decide +kernel
theorem dX6_holds_33 : decode cX6_holds 33 = .ok (.aload_n 0, 1) := by decide +kernel
theorem dX6_holds_34 : decode cX6_holds 34 = .ok (.getfield 16, 3) := by decide +kernel
theorem dX6_holds_37 : decode cX6_holds 37 = .ok (.iload_n 1, 1) := by decide +kernel
theorem dX6_holds_38 : decode cX6_holds 38 = .ok (.invokevirtual 133, 3) := by decide +kernel
theorem dX6_holds_41 : decode cX6_holds 41 = .ok (.goto 4, 3) := by decide +kernel
theorem dX6_holds_44 : decode cX6_holds 44 = .ok (.iload_n 2, 1) := by decide +kernel
theorem dX6_holds_45 : decode cX6_holds 45 = .ok (.ireturn, 1) := by decide +kernel
set_option maxRecDepth 20000 in
theorem ggX6_other_X6_within : GoodIn wsX6_other wsX6_within := goodIn_r _ [8] (by decide +kernel) (by decide +kernel)
set_option maxRecDepth 20000 in
theorem gX6_other_X6_within : GoodIn wsX6_other (va_wsS RX6 62 yX6_within wsX6_within) := goodIn_app (goodIn_of _ (by decide +kernel)) ggX6_other_X6_within
set_option maxRecDepth 20000 in
theorem ggX6_other_X2_pass : GoodIn wsX6_other wsX2_pass := goodIn_r _ [13, 14, 15, 16, 17, 18, 19, 20, 21, 22, 23, 24, 25, 26, 27, 28, 29, 30, 31, 32, 33, 34, 6, 7, 8, 35, 36, 37, 38, 39, 40, 41, 42, 43, 44, 45, 46, 47, 48, 49, 50, 51, 52, 53, 54, 55, 56, 57, 58, 59, 60, 61, 62, 63, 64, 65, 66, 67, 68, 69, 70, 71, 72, 73, 74, 75, 76, 77, 78, 79, 80, 81, 82, 83, 84, 85, 86, 12, 87, 88, 89, 90, 91, 92, 93, 94, 95, 96, 97, 98, 99, 100, 101, 102, 103, 104, 105, 106, 107, 108, 109, 110, 111, 112, 113, 114, 115, 116, 117, 118, 119, 120, 121, 122, 123, 124, 125, 126, 127, 128, 129, 130, 131, 132, 133, 134, 135, 136, 137, 138, 139, 140, 141, 142, 151, 152, 153, 154, 155, 156, 157, 158, 159, 160, 161, 162, 163, 164, 165, 166, 167, 168, 169, 170] (by decide +kernel) (by decide +kernel)
set_option maxRecDepth 20000 in
theorem gX6_other_X2_pass : GoodIn wsX6_other (wsV RX6 113 RX2 yX2_pass wsX2_pass) := goodIn_app (goodIn_of _ (by decide +kernel)) ggX6_other_X2_pass
theorem dX6_other_0 : decode cX6_other 0 = .ok (.iload_n 1, 1) := by decide +kernel
theorem dX6_other_1 : decode cX6_other 1 = .ok (.iconst 0, 1) := by decide +kernel
theorem dX6_other_2 : decode cX6_other 2 = .ok (.iconst 1, 1) := by decide +kernel
theorem dX6_other_3 : decode cX6_other 3 = .ok (.invokestatic 62, 3) := by decide +kernel
theorem dX6_other_6 : decode cX6_other 6 = .ok (.ifCond .ne 6, 3) := by decide +kernel
theorem dX6_other_9 : decode cX6_other 9 = .ok (.bipush (-2), 2) := by decide +kernel
theorem dX6_other_11 : decode cX6_other 11 = .ok (.ireturn, 1) := by decide +kernel
theorem dX6_other_12 : decode cX6_other 12 = .ok (.aload_n 0, 1) := by decide +kernel
theorem dX6_other_13 : decode cX6_other 13 = .ok (.getfield 33, 3) := by decide +kernel
theorem dX6_other_16 : decode cX6_other 16 = .ok (.aload_n 0, 1) := by decide +kernel
theorem dX6_other_17 : decode cX6_other 17 = .ok (.getfield 26, 3) := by decide +kernel
theorem dX6_other_20 : decode cX6_other 20 = .ok (.aload_n 0, 1) := by decide +kernel
theorem dX6_other_21 : decode cX6_other 21 = .ok (.getfield 16, 3) := by decide +kernel
theorem dX6_other_24 : decode cX6_other 24 = .ok (.aload_n 0, 1) := by decide +kernel
theorem dX6_other_25 : decode cX6_other 25 = .ok (.getfield 12, 3) := by decide +kernel
theorem dX6_other_28 : decode cX6_other 28 = .ok (.invokevirtual 113, 3) := by decide +kernel
theorem dX6_other_31 : decode cX6_other 31 = .ok (.istore_n 2, 1) := by decide +kernel
theorem dX6_other_32 : decode cX6_other 32 = .ok (.iload_n 2, 1) := by decide +kernel
theorem dX6_other_33 : decode cX6_other 33 = .ok (.ifCond .eq 5, 3) := by decide +kernel
theorem dX6_other_36 : decode cX6_other 36 = .ok (.iload_n 2, 1) := by decide +kernel
theorem dX6_other_37 : decode cX6_other 37 = .ok (.ireturn, 1) := by decide +kernel
theorem dX6_other_38 : decode cX6_other 38 = .ok (.iload_n 1, 1) := by decide +kernel
theorem dX6_other_39 : decode cX6_other 39 = .ok (.ifCond .ne 13, 3) := by decide +kernel
theorem dX6_other_42 : decode cX6_other 42 = .ok (.aload_n 0, 1) := by decide +kernel
theorem dX6_other_43 : decode cX6_other 43 = .ok (.getfield 33, 3) := by decide +kernel
theorem dX6_other_46 : decode cX6_other 46 = .ok (.getfield 136, 3) := by decide +kernel
theorem dX6_other_49 : decode cX6_other 49 = .ok (.goto 10, 3) := by decide +kernel
theorem dX6_other_52 : decode cX6_other 52 = .ok (.aload_n 0, 1) := by decide +kernel
theorem dX6_other_53 : decode cX6_other 53 = .ok (.getfield 33, 3) := by decide +kernel
theorem dX6_other_56 : decode cX6_other 56 = .ok (.getfield 139, 3) := by decide +kernel
theorem dX6_other_59 : decode cX6_other 59 = .ok (.ireturn, 1) := by decide +kernel
set_option maxRecDepth 20000 in
theorem ggX6_done_X2_pass : GoodIn wsX6_done wsX2_pass := goodIn_r _ [9, 10, 11, 12, 13, 14, 15, 16, 17, 18, 19, 20, 21, 22, 23, 24, 25, 26, 27, 28, 29, 30, 31, 32, 33, 34, 35, 36, 37, 38, 39, 40, 41, 42, 43, 44, 45, 46, 47, 48, 49, 50, 51, 52, 53, 54, 55, 56, 57, 58, 59, 60, 61, 62, 63, 64, 65, 66, 67, 68, 69, 70, 71, 72, 73, 74, 75, 76, 77, 78, 79, 80, 81, 82, 83, 84, 85, 8, 86, 87, 88, 89, 90, 91, 92, 93, 94, 95, 96, 97, 98, 99, 100, 101, 102, 103, 104, 105, 106, 107, 108, 109, 110, 111, 112, 113, 114, 115, 116, 117, 118, 119, 120, 121, 122, 123, 124, 125, 126, 127, 128, 129, 130, 131, 132, 133, 134, 135, 136, 137, 138, 139, 140, 141, 155, 156, 157, 158, 159, 160, 161, 162, 163, 164, 165, 166, 167, 168, 169, 170, 171, 172, 173, 174] (by decide +kernel) (by decide +kernel)
set_option maxRecDepth 20000 in
theorem gX6_done_X2_pass : GoodIn wsX6_done (wsV RX6 113 RX2 yX2_pass wsX2_pass) := goodIn_app (goodIn_of _ (by decide +kernel)) ggX6_done_X2_pass
set_option maxRecDepth 20000 in
theorem ggX6_done_X1_copyFrom : GoodIn wsX6_done wsX1_copyFrom := goodIn_r _ [46, 47, 48, 49, 50, 51, 52, 53, 54, 55, 56, 57, 58, 59, 60, 61, 62, 163, 164, 165, 166, 167, 168, 169, 170, 171, 172, 173, 174] (by decide +kernel) (by decide +kernel)
set_option maxRecDepth 20000 in
theorem gX6_done_X1_copyFrom : GoodIn wsX6_done (wsV RX6 142 RX1 yX1_copyFrom wsX1_copyFrom) := goodIn_app (goodIn_of _ (by decide +kernel)) ggX6_done_X1_copyFrom
set_option maxRecDepth 20000 in
theorem ggX6_done_X3_clear : GoodIn wsX6_done wsX3_clear := goodIn_r _ [146, 21, 161, 162] (by decide +kernel) (by decide +kernel)
set_option maxRecDepth 20000 in
theorem gX6_done_X3_clear : GoodIn wsX6_done (wsV RX6 107 RX3 yX3_clear wsX3_clear) := goodIn_app (goodIn_of _ (by decide +kernel)) ggX6_done_X3_clear
theorem dX6_done_0 : decode cX6_done 0 = .ok (.aload_n 0, 1) := by decide +kernel
theorem dX6_done_1 : decode cX6_done 1 = .ok (.getfield 33, 3) := by decide +kernel
theorem dX6_done_4 : decode cX6_done 4 = .ok (.aload_n 0, 1) := by decide +kernel
theorem dX6_done_5 : decode cX6_done 5 = .ok (.getfield 26, 3) := by decide +kernel
theorem dX6_done_8 : decode cX6_done 8 = .ok (.aload_n 0, 1) := by decide +kernel
theorem dX6_done_9 : decode cX6_done 9 = .ok (.getfield 16, 3) := by decide +kernel
theorem dX6_done_12 : decode cX6_done 12 = .ok (.aload_n 0, 1) := by decide +kernel
theorem dX6_done_13 : decode cX6_done 13 = .ok (.getfield 12, 3) := by decide +kernel
theorem dX6_done_16 : decode cX6_done 16 = .ok (.invokevirtual 113, 3) := by decide +kernel
theorem dX6_done_19 : decode cX6_done 19 = .ok (.istore_n 1, 1) := by decide +kernel
theorem dX6_done_20 : decode cX6_done 20 = .ok (.iload_n 1, 1) := by decide +kernel
theorem dX6_done_21 : decode cX6_done 21 = .ok (.ifCond .eq 5, 3) := by decide +kernel
theorem dX6_done_24 : decode cX6_done 24 = .ok (.iload_n 1, 1) := by decide +kernel
theorem dX6_done_25 : decode cX6_done 25 = .ok (.ireturn, 1) := by decide +kernel
theorem dX6_done_26 : decode cX6_done 26 = .ok (.aload_n 0, 1) := by decide +kernel
theorem dX6_done_27 : decode cX6_done 27 = .ok (.getfield 12, 3) := by decide +kernel
theorem dX6_done_30 : decode cX6_done 30 = .ok (.aload_n 0, 1) := by decide +kernel
theorem dX6_done_31 : decode cX6_done 31 = .ok (.getfield 16, 3) := by decide +kernel
theorem dX6_done_34 : decode cX6_done 34 = .ok (.invokevirtual 142, 3) := by decide +kernel
theorem dX6_done_37 : decode cX6_done 37 = .ok (.aload_n 0, 1) := by decide +kernel
theorem dX6_done_38 : decode cX6_done 38 = .ok (.getfield 26, 3) := by decide +kernel
theorem dX6_done_41 : decode cX6_done 41 = .ok (.invokevirtual 107, 3) := by decide +kernel
theorem dX6_done_44 : decode cX6_done 44 = .ok (.aload_n 0, 1) := by decide +kernel
theorem dX6_done_45 : decode cX6_done 45 = .ok (.getfield 33, 3) := by decide +kernel
theorem dX6_done_48 : decode cX6_done 48 = .ok (.getfield 146, 3) := by decide +kernel
theorem dX6_done_51 : decode cX6_done 51 = .ok (.ireturn, 1) := by decide +kernel
set_option maxRecDepth 20000 in
theorem ggX6_near_X6_isPlace : GoodIn wsX6_near wsX6_isPlace := goodIn_r _ [6] (by decide +kernel) (by decide +kernel)
set_option maxRecDepth 20000 in
theorem gX6_near_X6_isPlace : GoodIn wsX6_near (va_wsS RX6 58 yX6_isPlace wsX6_isPlace) := goodIn_app (goodIn_of _ (by decide +kernel)) ggX6_near_X6_isPlace
set_option maxRecDepth 20000 in
theorem ggX6_near_X6_within : GoodIn wsX6_near wsX6_within := goodIn_r _ [9] (by decide +kernel) (by decide +kernel)
set_option maxRecDepth 20000 in
theorem gX6_near_X6_within : GoodIn wsX6_near (va_wsS RX6 62 yX6_within wsX6_within) := goodIn_app (goodIn_of _ (by decide +kernel)) ggX6_near_X6_within
set_option maxRecDepth 20000 in
theorem ggX6_near_X5_measure : GoodIn wsX6_near wsX5_measure := goodIn_r _ [14, 15, 16, 17, 18, 19, 20, 21, 4, 5, 6, 22, 23, 24, 13, 25, 26, 27, 28, 29, 47, 48, 49, 50, 51, 52, 53, 54, 55, 56, 57, 58, 59, 60, 61] (by decide +kernel) (by decide +kernel)
set_option maxRecDepth 20000 in
theorem gX6_near_X5_measure : GoodIn wsX6_near (wsV RX6 149 RX5 yX5_measure wsX5_measure) := goodIn_app (goodIn_of _ (by decide +kernel)) ggX6_near_X5_measure
set_option maxRecDepth 20000 in
theorem ggX6_near_X5_howFar : GoodIn wsX6_near wsX5_howFar := goodIn_r _ [33, 26, 27, 28, 13, 29, 15, 4, 5, 6, 47, 48, 49] (by decide +kernel) (by decide +kernel)
set_option maxRecDepth 20000 in
theorem gX6_near_X5_howFar : GoodIn wsX6_near (wsV RX6 152 RX5 yX5_howFar wsX5_howFar) := goodIn_app (goodIn_of _ (by decide +kernel)) ggX6_near_X5_howFar
set_option maxRecDepth 20000 in
theorem ggX6_near_X5_nextPlace : GoodIn wsX6_near wsX5_nextPlace := goodIn_r _ [37, 38, 31, 32, 13, 33, 26, 27, 28, 29, 15, 4, 5, 6, 16, 17, 18, 19, 20, 21, 47, 48, 49, 50, 51, 52, 53, 54, 55, 56, 57, 58, 59, 60, 61] (by decide +kernel) (by decide +kernel)
set_option maxRecDepth 20000 in
theorem gX6_near_X5_nextPlace : GoodIn wsX6_near (wsV RX6 155 RX5 yX5_nextPlace wsX5_nextPlace) := goodIn_app (goodIn_of _ (by decide +kernel)) ggX6_near_X5_nextPlace
theorem dX6_near_0 : decode cX6_near 0 = .ok (.iload_n 1, 1) := by decide +kernel
theorem dX6_near_1 : decode cX6_near 1 = .ok (.invokestatic 58, 3) := by decide +kernel
theorem dX6_near_4 : decode cX6_near 4 = .ok (.ifCond .eq 10, 3) := by decide +kernel
theorem dX6_near_7 : decode cX6_near 7 = .ok (.iload_n 2, 1) := by decide +kernel
theorem dX6_near_8 : decode cX6_near 8 = .ok (.invokestatic 58, 3) := by decide +kernel
theorem dX6_near_11 : decode cX6_near 11 = .ok (.ifCond .ne 5, 3) := by decide +kernel
theorem dX6_near_14 : decode cX6_near 14 = .ok (.iconst (-1), 1) := by decide +kernel
theorem dX6_near_15 : decode cX6_near 15 = .ok (.ireturn, 1) := by decide +kernel
theorem dX6_near_16 : decode cX6_near 16 = .ok (.iload_n 3, 1) := by decide +kernel
theorem dX6_near_17 : decode cX6_near 17 = .ok (.iconst 0, 1) := by decide +kernel
theorem dX6_near_18 : decode cX6_near 18 = .ok (.iconst 1, 1) := by decide +kernel
theorem dX6_near_19 : decode cX6_near 19 = .ok (.invokestatic 62, 3) := by decide +kernel
theorem dX6_near_22 : decode cX6_near 22 = .ok (.ifCond .ne 6, 3) := by decide +kernel
theorem dX6_near_25 : decode cX6_near 25 = .ok (.bipush (-2), 2) := by decide +kernel
theorem dX6_near_27 : decode cX6_near 27 = .ok (.ireturn, 1) := by decide +kernel
theorem dX6_near_28 : decode cX6_near 28 = .ok (.aload_n 0, 1) := by decide +kernel
theorem dX6_near_29 : decode cX6_near 29 = .ok (.getfield 40, 3) := by decide +kernel
theorem dX6_near_32 : decode cX6_near 32 = .ok (.aload_n 0, 1) := by decide +kernel
theorem dX6_near_33 : decode cX6_near 33 = .ok (.getfield 12, 3) := by decide +kernel
theorem dX6_near_36 : decode cX6_near 36 = .ok (.invokevirtual 149, 3) := by decide +kernel
theorem dX6_near_39 : decode cX6_near 39 = .ok (.iload_n 3, 1) := by decide +kernel
theorem dX6_near_40 : decode cX6_near 40 = .ok (.ifCond .ne 15, 3) := by decide +kernel
theorem dX6_near_43 : decode cX6_near 43 = .ok (.aload_n 0, 1) := by decide +kernel
theorem dX6_near_44 : decode cX6_near 44 = .ok (.getfield 40, 3) := by decide +kernel
theorem dX6_near_47 : decode cX6_near 47 = .ok (.iload_n 1, 1) := by decide +kernel
theorem dX6_near_48 : decode cX6_near 48 = .ok (.iload_n 2, 1) := by decide +kernel
theorem dX6_near_49 : decode cX6_near 49 = .ok (.invokevirtual 152, 3) := by decide +kernel
theorem dX6_near_52 : decode cX6_near 52 = .ok (.goto 16, 3) := by decide +kernel
theorem dX6_near_55 : decode cX6_near 55 = .ok (.aload_n 0, 1) := by decide +kernel
theorem dX6_near_56 : decode cX6_near 56 = .ok (.getfield 40, 3) := by decide +kernel
theorem dX6_near_59 : decode cX6_near 59 = .ok (.aload_n 0, 1) := by decide +kernel
theorem dX6_near_60 : decode cX6_near 60 = .ok (.getfield 12, 3) := by decide +kernel
theorem dX6_near_63 : decode cX6_near 63 = .ok (.iload_n 1, 1) := by decide +kernel
theorem dX6_near_64 : decode cX6_near 64 = .ok (.iload_n 2, 1) := by decide +kernel
theorem dX6_near_65 : decode cX6_near 65 = .ok (.invokevirtual 155, 3) := by decide +kernel
theorem dX6_near_68 : decode cX6_near 68 = .ok (.ireturn, 1) := by decide +kernel
set_option maxRecDepth 20000 in
theorem ggX6_round_X6_within : GoodIn wsX6_round wsX6_within := goodIn_r _ [6] (by decide +kernel) (by decide +kernel)
set_option maxRecDepth 20000 in
theorem gX6_round_X6_within : GoodIn wsX6_round (va_wsS RX6 62 yX6_within wsX6_within) := goodIn_app (goodIn_of _ (by decide +kernel)) ggX6_round_X6_within
set_option maxRecDepth 20000 in
theorem ggX6_round_X5_bestRound : GoodIn wsX6_round wsX5_bestRound := goodIn_r _ [11, 12, 13, 14, 15, 16, 10, 17, 18, 19, 20, 21, 22, 23, 24, 25, 5, 26, 27, 28, 29, 30, 31, 32, 33, 34, 35, 36, 37, 38, 39, 40, 41, 42, 43, 44, 45, 46, 47, 48, 49, 50, 51, 52, 53, 54, 55, 56, 57, 58, 59, 60, 61, 62, 4, 6, 63, 64, 65, 66, 67, 68, 69, 70, 71, 72, 73, 74, 75, 85, 86, 87, 88, 89, 90, 91, 92, 93, 94, 95, 96, 97, 98, 99] (by decide +kernel) (by decide +kernel)
set_option maxRecDepth 20000 in
theorem gX6_round_X5_bestRound : GoodIn wsX6_round (wsV RX6 159 RX5 yX5_bestRound wsX5_bestRound) := goodIn_app (goodIn_of _ (by decide +kernel)) ggX6_round_X5_bestRound
set_option maxRecDepth 20000 in
theorem ggX6_round_J6_bitCount_0f7a4 : GoodIn wsX6_round wsJ6_bitCount_0f7a4 := goodIn_r _ [72, 73, 74, 75] (by decide +kernel) (by decide +kernel)
set_option maxRecDepth 20000 in
theorem gX6_round_J6_bitCount_0f7a4 : GoodIn wsX6_round (va_wsS RX6 163 yJ6_bitCount_0f7a4 wsJ6_bitCount_0f7a4) := goodIn_app (goodIn_of _ (by decide +kernel)) ggX6_round_J6_bitCount_0f7a4
theorem dX6_round_0 : decode cX6_round 0 = .ok (.iload_n 1, 1) := by decide +kernel
theorem dX6_round_1 : decode cX6_round 1 = .ok (.iconst 0, 1) := by decide +kernel
theorem dX6_round_2 : decode cX6_round 2 = .ok (.bipush 99, 2) := by decide +kernel
theorem dX6_round_4 : decode cX6_round 4 = .ok (.invokestatic 62, 3) := by decide +kernel
theorem dX6_round_7 : decode cX6_round 7 = .ok (.ifCond .eq 12, 3) := by decide +kernel
theorem dX6_round_10 : decode cX6_round 10 = .ok (.iload_n 2, 1) := by decide +kernel
theorem dX6_round_11 : decode cX6_round 11 = .ok (.iconst 0, 1) := by decide +kernel
theorem dX6_round_12 : decode cX6_round 12 = .ok (.iconst 1, 1) := by decide +kernel
theorem dX6_round_13 : decode cX6_round 13 = .ok (.invokestatic 62, 3) := by decide +kernel
theorem dX6_round_16 : decode cX6_round 16 = .ok (.ifCond .ne 6, 3) := by decide +kernel
theorem dX6_round_19 : decode cX6_round 19 = .ok (.bipush (-2), 2) := by decide +kernel
theorem dX6_round_21 : decode cX6_round 21 = .ok (.ireturn, 1) := by decide +kernel
theorem dX6_round_22 : decode cX6_round 22 = .ok (.aload_n 0, 1) := by decide +kernel
theorem dX6_round_23 : decode cX6_round 23 = .ok (.getfield 40, 3) := by decide +kernel
theorem dX6_round_26 : decode cX6_round 26 = .ok (.aload_n 0, 1) := by decide +kernel
theorem dX6_round_27 : decode cX6_round 27 = .ok (.getfield 12, 3) := by decide +kernel
theorem dX6_round_30 : decode cX6_round 30 = .ok (.iload_n 1, 1) := by decide +kernel
theorem dX6_round_31 : decode cX6_round 31 = .ok (.invokevirtual 159, 3) := by decide +kernel
theorem dX6_round_34 : decode cX6_round 34 = .ok (.istore_n 3, 1) := by decide +kernel
theorem dX6_round_35 : decode cX6_round 35 = .ok (.iload_n 2, 1) := by decide +kernel
theorem dX6_round_36 : decode cX6_round 36 = .ok (.ifCond .ne 10, 3) := by decide +kernel
theorem dX6_round_39 : decode cX6_round 39 = .ok (.iload_n 3, 1) := by decide +kernel
theorem dX6_round_40 : decode cX6_round 40 = .ok (.invokestatic 163, 3) := by decide +kernel
theorem dX6_round_43 : decode cX6_round 43 = .ok (.goto 4, 3) := by decide +kernel
theorem dX6_round_46 : decode cX6_round 46 = .ok (.iload_n 3, 1) := by decide +kernel
theorem dX6_round_47 : decode cX6_round 47 = .ok (.ireturn, 1) := by decide +kernel
set_option maxRecDepth 20000 in
theorem ggX6_keep_X6_isHouse : GoodIn wsX6_keep wsX6_isHouse := goodIn_r _ [6] (by decide +kernel) (by decide +kernel)
set_option maxRecDepth 20000 in
theorem gX6_keep_X6_isHouse : GoodIn wsX6_keep (va_wsS RX6 74 yX6_isHouse wsX6_isHouse) := goodIn_app (goodIn_of _ (by decide +kernel)) ggX6_keep_X6_isHouse
set_option maxRecDepth 20000 in
theorem ggX6_keep_X6_within : GoodIn wsX6_keep wsX6_within := goodIn_r _ [9] (by decide +kernel) (by decide +kernel)
set_option maxRecDepth 20000 in
theorem gX6_keep_X6_within : GoodIn wsX6_keep (va_wsS RX6 62 yX6_within wsX6_within) := goodIn_app (goodIn_of _ (by decide +kernel)) ggX6_keep_X6_within
set_option maxRecDepth 20000 in
theorem ggX6_keep_X5_fewestDamp : GoodIn wsX6_keep wsX5_fewestDamp := goodIn_r _ [14, 15, 16, 17, 18, 19, 20, 21, 5, 22, 23, 24, 25, 13, 26, 27, 28, 29, 30, 31, 32, 33, 34, 35, 36, 37, 38, 39, 40, 50, 51, 52, 53, 54, 55, 56, 57, 58, 59, 60, 61, 62, 63, 64] (by decide +kernel) (by decide +kernel)
set_option maxRecDepth 20000 in
theorem gX6_keep_X5_fewestDamp : GoodIn wsX6_keep (wsV RX6 168 RX5 yX5_fewestDamp wsX5_fewestDamp) := goodIn_app (goodIn_of _ (by decide +kernel)) ggX6_keep_X5_fewestDamp
set_option maxRecDepth 20000 in
theorem ggX6_keep_J6_bitCount_0f7a4 : GoodIn wsX6_keep wsJ6_bitCount_0f7a4 := goodIn_r _ [31, 32, 33, 34] (by decide +kernel) (by decide +kernel)
set_option maxRecDepth 20000 in
theorem gX6_keep_J6_bitCount_0f7a4 : GoodIn wsX6_keep (va_wsS RX6 163 yJ6_bitCount_0f7a4 wsJ6_bitCount_0f7a4) := goodIn_app (goodIn_of _ (by decide +kernel)) ggX6_keep_J6_bitCount_0f7a4
theorem dX6_keep_0 : decode cX6_keep 0 = .ok (.iload_n 1, 1) := by decide +kernel
theorem dX6_keep_1 : decode cX6_keep 1 = .ok (.invokestatic 74, 3) := by decide +kernel
theorem dX6_keep_4 : decode cX6_keep 4 = .ok (.ifCond .ne 5, 3) := by decide +kernel
theorem dX6_keep_7 : decode cX6_keep 7 = .ok (.iconst (-1), 1) := by decide +kernel
theorem dX6_keep_8 : decode cX6_keep 8 = .ok (.ireturn, 1) := by decide +kernel
theorem dX6_keep_9 : decode cX6_keep 9 = .ok (.iload_n 2, 1) := by decide +kernel
theorem dX6_keep_10 : decode cX6_keep 10 = .ok (.iconst 0, 1) := by decide +kernel
theorem dX6_keep_11 : decode cX6_keep 11 = .ok (.iconst 1, 1) := by decide +kernel
theorem dX6_keep_12 : decode cX6_keep 12 = .ok (.invokestatic 62, 3) := by decide +kernel
theorem dX6_keep_15 : decode cX6_keep 15 = .ok (.ifCond .ne 6, 3) := by decide +kernel
theorem dX6_keep_18 : decode cX6_keep 18 = .ok (.bipush (-2), 2) := by decide +kernel
theorem dX6_keep_20 : decode cX6_keep 20 = .ok (.ireturn, 1) := by decide +kernel
theorem dX6_keep_21 : decode cX6_keep 21 = .ok (.aload_n 0, 1) := by decide +kernel
theorem dX6_keep_22 : decode cX6_keep 22 = .ok (.getfield 40, 3) := by decide +kernel
theorem dX6_keep_25 : decode cX6_keep 25 = .ok (.aload_n 0, 1) := by decide +kernel
theorem dX6_keep_26 : decode cX6_keep 26 = .ok (.getfield 12, 3) := by decide +kernel
theorem dX6_keep_29 : decode cX6_keep 29 = .ok (.iload_n 1, 1) := by decide +kernel
theorem dX6_keep_30 : decode cX6_keep 30 = .ok (.invokevirtual 168, 3) := by decide +kernel
theorem dX6_keep_33 : decode cX6_keep 33 = .ok (.istore_n 3, 1) := by decide +kernel
theorem dX6_keep_34 : decode cX6_keep 34 = .ok (.iload_n 2, 1) := by decide +kernel
theorem dX6_keep_35 : decode cX6_keep 35 = .ok (.iconst 1, 1) := by decide +kernel
theorem dX6_keep_36 : decode cX6_keep 36 = .ok (.if_icmp .eq 9, 3) := by decide +kernel
theorem dX6_keep_39 : decode cX6_keep 39 = .ok (.iload_n 3, 1) := by decide +kernel
theorem dX6_keep_40 : decode cX6_keep 40 = .ok (.bipush (-6), 2) := by decide +kernel
theorem dX6_keep_42 : decode cX6_keep 42 = .ok (.if_icmp .ne 7, 3) := by decide +kernel
theorem dX6_keep_45 : decode cX6_keep 45 = .ok (.iload_n 3, 1) := by decide +kernel
theorem dX6_keep_46 : decode cX6_keep 46 = .ok (.goto 7, 3) := by decide +kernel
theorem dX6_keep_49 : decode cX6_keep 49 = .ok (.iload_n 3, 1) := by decide +kernel
theorem dX6_keep_50 : decode cX6_keep 50 = .ok (.invokestatic 163, 3) := by decide +kernel
theorem dX6_keep_53 : decode cX6_keep 53 = .ok (.ireturn, 1) := by decide +kernel
set_option maxRecDepth 20000 in
theorem ggX6_faded_X6_isTale : GoodIn wsX6_faded wsX6_isTale := goodIn_r _ [5] (by decide +kernel) (by decide +kernel)
set_option maxRecDepth 20000 in
theorem gX6_faded_X6_isTale : GoodIn wsX6_faded (va_wsS RX6 84 yX6_isTale wsX6_isTale) := goodIn_app (goodIn_of _ (by decide +kernel)) ggX6_faded_X6_isTale
set_option maxRecDepth 20000 in
theorem ggX6_faded_X6_within : GoodIn wsX6_faded wsX6_within := goodIn_r _ [8] (by decide +kernel) (by decide +kernel)
set_option maxRecDepth 20000 in
theorem gX6_faded_X6_within : GoodIn wsX6_faded (va_wsS RX6 62 yX6_within wsX6_within) := goodIn_app (goodIn_of _ (by decide +kernel)) ggX6_faded_X6_within
set_option maxRecDepth 20000 in
theorem ggX6_faded_X1_behindStirs : GoodIn wsX6_faded wsX1_behindStirs := goodIn_r _ [13, 14, 15, 16, 12, 17, 18, 3, 4, 5, 39, 40, 41, 42, 43, 44, 45, 46, 47, 48, 49, 50] (by decide +kernel) (by decide +kernel)
set_option maxRecDepth 20000 in
theorem gX6_faded_X1_behindStirs : GoodIn wsX6_faded (wsV RX6 171 RX1 yX1_behindStirs wsX1_behindStirs) := goodIn_app (goodIn_of _ (by decide +kernel)) ggX6_faded_X1_behindStirs
set_option maxRecDepth 20000 in
theorem ggX6_faded_X1_stirsToRing : GoodIn wsX6_faded wsX1_stirsToRing := goodIn_r _ [22, 3, 4, 5, 23, 24, 14, 15, 16, 12, 17, 18, 39, 40, 41, 42, 43, 44, 45, 46, 47, 48, 49, 50] (by decide +kernel) (by decide +kernel)
set_option maxRecDepth 20000 in
theorem gX6_faded_X1_stirsToRing : GoodIn wsX6_faded (wsV RX6 174 RX1 yX1_stirsToRing wsX1_stirsToRing) := goodIn_app (goodIn_of _ (by decide +kernel)) ggX6_faded_X1_stirsToRing
set_option maxRecDepth 20000 in
theorem ggX6_faded_X1_stirsOfRing : GoodIn wsX6_faded wsX1_stirsOfRing := goodIn_r _ [28, 29, 20, 21, 12, 22, 3, 4, 5, 23, 24, 14, 15, 16, 17, 18, 30, 10, 11, 13, 39, 40, 41, 42, 43, 44, 45, 46, 47, 48, 49, 50] (by decide +kernel) (by decide +kernel)
set_option maxRecDepth 20000 in
theorem gX6_faded_X1_stirsOfRing : GoodIn wsX6_faded (wsV RX6 177 RX1 yX1_stirsOfRing wsX1_stirsOfRing) := goodIn_app (goodIn_of _ (by decide +kernel)) ggX6_faded_X1_stirsOfRing
theorem dX6_faded_0 : decode cX6_faded 0 = .ok (.iload_n 1, 1) := by decide +kernel
theorem dX6_faded_1 : decode cX6_faded 1 = .ok (.invokestatic 84, 3) := by decide +kernel
theorem dX6_faded_4 : decode cX6_faded 4 = .ok (.ifCond .ne 5, 3) := by decide +kernel
theorem dX6_faded_7 : decode cX6_faded 7 = .ok (.iconst (-1), 1) := by decide +kernel
theorem dX6_faded_8 : decode cX6_faded 8 = .ok (.ireturn, 1) := by decide +kernel
theorem dX6_faded_9 : decode cX6_faded 9 = .ok (.iload_n 2, 1) := by decide +kernel
theorem dX6_faded_10 : decode cX6_faded 10 = .ok (.bipush (-2), 2) := by decide +kernel
theorem dX6_faded_12 : decode cX6_faded 12 = .ok (.bipush 99, 2) := by decide +kernel
theorem dX6_faded_14 : decode cX6_faded 14 = .ok (.invokestatic 62, 3) := by decide +kernel
theorem dX6_faded_17 : decode cX6_faded 17 = .ok (.ifCond .ne 6, 3) := by decide +kernel
theorem dX6_faded_20 : decode cX6_faded 20 = .ok (.bipush (-2), 2) := by decide +kernel
theorem dX6_faded_22 : decode cX6_faded 22 = .ok (.ireturn, 1) := by decide +kernel
theorem dX6_faded_23 : decode cX6_faded 23 = .ok (.iload_n 2, 1) := by decide +kernel
theorem dX6_faded_24 : decode cX6_faded 24 = .ok (.ifCond .lt 13, 3) := by decide +kernel
theorem dX6_faded_27 : decode cX6_faded 27 = .ok (.aload_n 0, 1) := by decide +kernel
theorem dX6_faded_28 : decode cX6_faded 28 = .ok (.getfield 12, 3) := by decide +kernel
theorem dX6_faded_31 : decode cX6_faded 31 = .ok (.iload_n 1, 1) := by decide +kernel
theorem dX6_faded_32 : decode cX6_faded 32 = .ok (.iload_n 2, 1) := by decide +kernel
theorem dX6_faded_33 : decode cX6_faded 33 = .ok (.invokevirtual 171, 3) := by decide +kernel
theorem dX6_faded_36 : decode cX6_faded 36 = .ok (.ireturn, 1) := by decide +kernel
theorem dX6_faded_37 : decode cX6_faded 37 = .ok (.iload_n 2, 1) := by decide +kernel
theorem dX6_faded_38 : decode cX6_faded 38 = .ok (.iconst (-1), 1) := by decide +kernel
theorem dX6_faded_39 : decode cX6_faded 39 = .ok (.if_icmp .ne 14, 3) := by decide +kernel
theorem dX6_faded_42 : decode cX6_faded 42 = .ok (.aload_n 0, 1) := by decide +kernel
theorem dX6_faded_43 : decode cX6_faded 43 = .ok (.getfield 12, 3) := by decide +kernel
theorem dX6_faded_46 : decode cX6_faded 46 = .ok (.iload_n 1, 1) := by decide +kernel
theorem dX6_faded_47 : decode cX6_faded 47 = .ok (.invokevirtual 174, 3) := by decide +kernel
theorem dX6_faded_50 : decode cX6_faded 50 = .ok (.goto 11, 3) := by decide +kernel
theorem dX6_faded_53 : decode cX6_faded 53 = .ok (.aload_n 0, 1) := by decide +kernel
theorem dX6_faded_54 : decode cX6_faded 54 = .ok (.getfield 12, 3) := by decide +kernel
theorem dX6_faded_57 : decode cX6_faded 57 = .ok (.iload_n 1, 1) := by decide +kernel
theorem dX6_faded_58 : decode cX6_faded 58 = .ok (.invokevirtual 177, 3) := by decide +kernel
theorem dX6_faded_61 : decode cX6_faded 61 = .ok (.ireturn, 1) := by decide +kernel
set_option maxRecDepth 20000 in
theorem ggX6_seen_X6_isTale : GoodIn wsX6_seen wsX6_isTale := goodIn_r _ [5] (by decide +kernel) (by decide +kernel)
set_option maxRecDepth 20000 in
theorem gX6_seen_X6_isTale : GoodIn wsX6_seen (va_wsS RX6 84 yX6_isTale wsX6_isTale) := goodIn_app (goodIn_of _ (by decide +kernel)) ggX6_seen_X6_isTale
set_option maxRecDepth 20000 in
theorem ggX6_seen_X6_within : GoodIn wsX6_seen wsX6_within := goodIn_r _ [8] (by decide +kernel) (by decide +kernel)
set_option maxRecDepth 20000 in
theorem gX6_seen_X6_within : GoodIn wsX6_seen (va_wsS RX6 62 yX6_within wsX6_within) := goodIn_app (goodIn_of _ (by decide +kernel)) ggX6_seen_X6_within
set_option maxRecDepth 20000 in
theorem ggX6_seen_X1_addSight : GoodIn wsX6_seen wsX1_addSight := goodIn_r _ [13, 14, 15, 16, 7, 4, 8, 29, 30, 31, 32, 33, 34, 35, 36, 37, 38, 39, 40] (by decide +kernel) (by decide +kernel)
set_option maxRecDepth 20000 in
theorem gX6_seen_X1_addSight : GoodIn wsX6_seen (wsV RX6 180 RX1 yX1_addSight wsX1_addSight) := goodIn_app (goodIn_of _ (by decide +kernel)) ggX6_seen_X1_addSight
set_option maxRecDepth 20000 in
theorem ggX6_seen_X1_sightCount : GoodIn wsX6_seen wsX1_sightCount := goodIn_r _ [20, 14, 29, 30, 31, 32, 33, 34, 35, 36, 37, 38, 39, 40] (by decide +kernel) (by decide +kernel)
set_option maxRecDepth 20000 in
theorem gX6_seen_X1_sightCount : GoodIn wsX6_seen (wsV RX6 184 RX1 yX1_sightCount wsX1_sightCount) := goodIn_app (goodIn_of _ (by decide +kernel)) ggX6_seen_X1_sightCount
theorem dX6_seen_0 : decode cX6_seen 0 = .ok (.iload_n 2, 1) := by decide +kernel
theorem dX6_seen_1 : decode cX6_seen 1 = .ok (.invokestatic 84, 3) := by decide +kernel
theorem dX6_seen_4 : decode cX6_seen 4 = .ok (.ifCond .ne 5, 3) := by decide +kernel
theorem dX6_seen_7 : decode cX6_seen 7 = .ok (.iconst (-1), 1) := by decide +kernel
theorem dX6_seen_8 : decode cX6_seen 8 = .ok (.ireturn, 1) := by decide +kernel
theorem dX6_seen_9 : decode cX6_seen 9 = .ok (.iload_n 1, 1) := by decide +kernel
theorem dX6_seen_10 : decode cX6_seen 10 = .ok (.iconst 0, 1) := by decide +kernel
theorem dX6_seen_11 : decode cX6_seen 11 = .ok (.bipush 40, 2) := by decide +kernel
theorem dX6_seen_13 : decode cX6_seen 13 = .ok (.invokestatic 62, 3) := by decide +kernel
theorem dX6_seen_16 : decode cX6_seen 16 = .ok (.ifCond .ne 6, 3) := by decide +kernel
theorem dX6_seen_19 : decode cX6_seen 19 = .ok (.bipush (-2), 2) := by decide +kernel
theorem dX6_seen_21 : decode cX6_seen 21 = .ok (.ireturn, 1) := by decide +kernel
theorem dX6_seen_22 : decode cX6_seen 22 = .ok (.aload_n 0, 1) := by decide +kernel
theorem dX6_seen_23 : decode cX6_seen 23 = .ok (.getfield 12, 3) := by decide +kernel
theorem dX6_seen_26 : decode cX6_seen 26 = .ok (.iload_n 1, 1) := by decide +kernel
theorem dX6_seen_27 : decode cX6_seen 27 = .ok (.iload_n 2, 1) := by decide +kernel
theorem dX6_seen_28 : decode cX6_seen 28 = .ok (.invokevirtual 180, 3) := by decide +kernel
theorem dX6_seen_31 : decode cX6_seen 31 = .ok (.ifCond .eq 13, 3) := by decide +kernel
theorem dX6_seen_34 : decode cX6_seen 34 = .ok (.aload_n 0, 1) := by decide +kernel
theorem dX6_seen_35 : decode cX6_seen 35 = .ok (.getfield 12, 3) := by decide +kernel
theorem dX6_seen_38 : decode cX6_seen 38 = .ok (.invokevirtual 184, 3) := by decide +kernel
theorem dX6_seen_41 : decode cX6_seen 41 = .ok (.goto 5, 3) := by decide +kernel
theorem dX6_seen_44 : decode cX6_seen 44 = .ok (.bipush (-4), 2) := by decide +kernel
theorem dX6_seen_46 : decode cX6_seen 46 = .ok (.ireturn, 1) := by decide +kernel
set_option maxRecDepth 20000 in
theorem ggX6_forget_X1_sightCount : GoodIn wsX6_forget wsX1_sightCount := goodIn_r _ [6, 7, 20, 21, 22, 23, 24, 25, 26, 27, 28, 29, 30, 31] (by decide +kernel) (by decide +kernel)
set_option maxRecDepth 20000 in
theorem gX6_forget_X1_sightCount : GoodIn wsX6_forget (wsV RX6 184 RX1 yX1_sightCount wsX1_sightCount) := goodIn_app (goodIn_of _ (by decide +kernel)) ggX6_forget_X1_sightCount
set_option maxRecDepth 20000 in
theorem ggX6_forget_X1_dropSights : GoodIn wsX6_forget wsX1_dropSights := goodIn_r _ [11, 7, 20, 21, 22, 23, 24, 25, 26, 27, 28, 29, 30, 31] (by decide +kernel) (by decide +kernel)
set_option maxRecDepth 20000 in
theorem gX6_forget_X1_dropSights : GoodIn wsX6_forget (wsV RX6 187 RX1 yX1_dropSights wsX1_dropSights) := goodIn_app (goodIn_of _ (by decide +kernel)) ggX6_forget_X1_dropSights
theorem dX6_forget_0 : decode cX6_forget 0 = .ok (.aload_n 0, 1) := by decide +kernel
theorem dX6_forget_1 : decode cX6_forget 1 = .ok (.getfield 12, 3) := by decide +kernel
theorem dX6_forget_4 : decode cX6_forget 4 = .ok (.invokevirtual 184, 3) := by decide +kernel
theorem dX6_forget_7 : decode cX6_forget 7 = .ok (.istore_n 1, 1) := by decide +kernel
theorem dX6_forget_8 : decode cX6_forget 8 = .ok (.aload_n 0, 1) := by decide +kernel
theorem dX6_forget_9 : decode cX6_forget 9 = .ok (.getfield 12, 3) := by decide +kernel
theorem dX6_forget_12 : decode cX6_forget 12 = .ok (.invokevirtual 187, 3) := by decide +kernel
theorem dX6_forget_15 : decode cX6_forget 15 = .ok (.iload_n 1, 1) := by decide +kernel
theorem dX6_forget_16 : decode cX6_forget 16 = .ok (.ireturn, 1) := by decide +kernel
set_option maxRecDepth 20000 in
theorem ggX6_fits_X4_gather : GoodIn wsX6_fits wsX4_gather := goodIn_r _ [7, 8, 9, 10, 11, 12, 6, 13, 14, 15, 16, 17, 18, 19, 20, 21, 22, 23, 24, 25, 26, 27, 28, 29, 30, 31, 32, 33, 34, 35, 36, 37, 38, 39, 40, 41, 42, 43, 44, 45, 46, 47, 48, 65, 66, 67, 68, 69, 70, 71, 72, 73, 74, 75, 76, 77, 78, 79, 80] (by decide +kernel) (by decide +kernel)
set_option maxRecDepth 20000 in
theorem gX6_fits_X4_gather : GoodIn wsX6_fits (wsV RX6 190 RX4 yX4_gather wsX4_gather) := goodIn_app (goodIn_of _ (by decide +kernel)) ggX6_fits_X4_gather
set_option maxRecDepth 20000 in
theorem ggX6_fits_X4_size : GoodIn wsX6_fits wsX4_size := goodIn_r _ [52, 8, 65, 66, 67, 68] (by decide +kernel) (by decide +kernel)
set_option maxRecDepth 20000 in
theorem gX6_fits_X4_size : GoodIn wsX6_fits (wsV RX6 193 RX4 yX4_size wsX4_size) := goodIn_app (goodIn_of _ (by decide +kernel)) ggX6_fits_X4_size
set_option maxRecDepth 20000 in
theorem ggX6_fits_X4_pick : GoodIn wsX6_fits wsX4_pick := goodIn_r _ [56, 8, 9, 38, 22, 39, 65, 66, 67, 68] (by decide +kernel) (by decide +kernel)
set_option maxRecDepth 20000 in
theorem gX6_fits_X4_pick : GoodIn wsX6_fits (wsV RX6 194 RX4 yX4_pick wsX4_pick) := goodIn_app (goodIn_of _ (by decide +kernel)) ggX6_fits_X4_pick
theorem dX6_fits_0 : decode cX6_fits 0 = .ok (.aload_n 0, 1) := by decide +kernel
theorem dX6_fits_1 : decode cX6_fits 1 = .ok (.getfield 47, 3) := by decide +kernel
theorem dX6_fits_4 : decode cX6_fits 4 = .ok (.aload_n 0, 1) := by decide +kernel
theorem dX6_fits_5 : decode cX6_fits 5 = .ok (.getfield 12, 3) := by decide +kernel
theorem dX6_fits_8 : decode cX6_fits 8 = .ok (.invokevirtual 190, 3) := by decide +kernel
theorem dX6_fits_11 : decode cX6_fits 11 = .ok (.iload_n 1, 1) := by decide +kernel
theorem dX6_fits_12 : decode cX6_fits 12 = .ok (.iconst (-1), 1) := by decide +kernel
theorem dX6_fits_13 : decode cX6_fits 13 = .ok (.if_icmp .ne 13, 3) := by decide +kernel
theorem dX6_fits_16 : decode cX6_fits 16 = .ok (.aload_n 0, 1) := by decide +kernel
theorem dX6_fits_17 : decode cX6_fits 17 = .ok (.getfield 47, 3) := by decide +kernel
theorem dX6_fits_20 : decode cX6_fits 20 = .ok (.invokevirtual 193, 3) := by decide +kernel
theorem dX6_fits_23 : decode cX6_fits 23 = .ok (.goto 11, 3) := by decide +kernel
theorem dX6_fits_26 : decode cX6_fits 26 = .ok (.aload_n 0, 1) := by decide +kernel
theorem dX6_fits_27 : decode cX6_fits 27 = .ok (.getfield 47, 3) := by decide +kernel
theorem dX6_fits_30 : decode cX6_fits 30 = .ok (.iload_n 1, 1) := by decide +kernel
theorem dX6_fits_31 : decode cX6_fits 31 = .ok (.invokevirtual 194, 3) := by decide +kernel
theorem dX6_fits_34 : decode cX6_fits 34 = .ok (.ireturn, 1) := by decide +kernel
set_option maxRecDepth 20000 in
theorem ggX6_ask_X6_within : GoodIn wsX6_ask wsX6_within := goodIn_r _ [6] (by decide +kernel) (by decide +kernel)
set_option maxRecDepth 20000 in
theorem gX6_ask_X6_within : GoodIn wsX6_ask (va_wsS RX6 62 yX6_within wsX6_within) := goodIn_app (goodIn_of _ (by decide +kernel)) ggX6_ask_X6_within
set_option maxRecDepth 20000 in
theorem ggX6_ask_X4_gather : GoodIn wsX6_ask wsX4_gather := goodIn_r _ [11, 12, 13, 14, 15, 16, 10, 17, 18, 19, 20, 21, 22, 23, 24, 25, 5, 26, 27, 28, 29, 30, 31, 32, 33, 34, 35, 36, 37, 38, 39, 40, 4, 6, 41, 42, 43, 44, 45, 46, 47, 48, 49, 80, 81, 82, 83, 84, 85, 86, 87, 88, 89, 90, 91, 92, 93, 94, 95] (by decide +kernel) (by decide +kernel)
set_option maxRecDepth 20000 in
theorem gX6_ask_X4_gather : GoodIn wsX6_ask (wsV RX6 190 RX4 yX4_gather wsX4_gather) := goodIn_app (goodIn_of _ (by decide +kernel)) ggX6_ask_X4_gather
set_option maxRecDepth 20000 in
theorem ggX6_ask_X4_bedToAsk : GoodIn wsX6_ask wsX4_bedToAsk := goodIn_r _ [53, 12, 54, 55, 56, 10, 57, 58, 59, 60, 61, 62, 63, 64, 65, 66, 67, 68, 69, 70, 13, 4, 5, 6, 41, 42, 43, 44, 18, 25, 26, 80, 81, 82, 83] (by decide +kernel) (by decide +kernel)
set_option maxRecDepth 20000 in
theorem gX6_ask_X4_bedToAsk : GoodIn wsX6_ask (wsV RX6 197 RX4 yX4_bedToAsk wsX4_bedToAsk) := goodIn_app (goodIn_of _ (by decide +kernel)) ggX6_ask_X4_bedToAsk
set_option maxRecDepth 20000 in
theorem ggX6_ask_X4_mostLeft : GoodIn wsX6_ask wsX4_mostLeft := goodIn_r _ [57, 58, 12, 59, 60, 61, 62, 63, 64, 65, 66, 67, 68, 69, 10, 70, 13, 4, 5, 6, 41, 42, 43, 44, 18, 25, 26, 80, 81, 82, 83] (by decide +kernel) (by decide +kernel)
set_option maxRecDepth 20000 in
theorem gX6_ask_X4_mostLeft : GoodIn wsX6_ask (wsV RX6 200 RX4 yX4_mostLeft wsX4_mostLeft) := goodIn_app (goodIn_of _ (by decide +kernel)) ggX6_ask_X4_mostLeft
theorem dX6_ask_0 : decode cX6_ask 0 = .ok (.iload_n 1, 1) := by decide +kernel
theorem dX6_ask_1 : decode cX6_ask 1 = .ok (.iconst 0, 1) := by decide +kernel
theorem dX6_ask_2 : decode cX6_ask 2 = .ok (.iconst 1, 1) := by decide +kernel
