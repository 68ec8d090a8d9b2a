theorem dX0_init_0 : decode cX0_init 0 = .ok (.aload_n 0, 1) := by decide +kernel
theorem dX0_init_1 : decode cX0_init 1 = .ok (.invokespecial 3, 3) := by decide +kernel
theorem dX0_init_4 : decode cX0_init 4 = .ok (.aload_n 0, 1) := by decide +kernel
theorem dX0_init_5 : decode cX0_init 5 = .ok (.bipush 11, 2) := by decide +kernel
theorem dX0_init_7 : decode cX0_init 7 = .ok (.newarray .long, 2) := by decide +kernel
theorem dX0_init_9 : decode cX0_init 9 = .ok (.putfield 9, 3) := by decide +kernel
theorem dX0_init_12 : decode cX0_init 12 = .ok (.aload_n 0, 1) := by decide +kernel
theorem dX0_init_13 : decode cX0_init 13 = .ok (.bipush 11, 2) := by decide +kernel
theorem dX0_init_15 : decode cX0_init 15 = .ok (.newarray .long, 2) := by decide +kernel
theorem dX0_init_17 : decode cX0_init 17 = .ok (.putfield 15, 3) := by decide +kernel
theorem dX0_init_20 : decode cX0_init 20 = .ok (.aload_n 0, 1) := by decide +kernel
theorem dX0_init_21 : decode cX0_init 21 = .ok (.bipush 61, 2) := by decide +kernel
theorem dX0_init_23 : decode cX0_init 23 = .ok (.newarray .int, 2) := by decide +kernel
theorem dX0_init_25 : decode cX0_init 25 = .ok (.putfield 18, 3) := by decide +kernel
theorem dX0_init_28 : decode cX0_init 28 = .ok (.return_, 1) := by decide +kernel
set_option maxRecDepth 20000 in
theorem ggX0_rowUpper_X0_weigh : GoodIn wsX0_rowUpper wsX0_weigh := goodIn_r _ [7, 1, 2, 8, 9, 10, 11, 12, 13, 14] (by decide +kernel) (by decide +kernel)
set_option maxRecDepth 20000 in
theorem gX0_rowUpper_X0_weigh : GoodIn wsX0_rowUpper (wsV RX0 22 RX0 yX0_weigh wsX0_weigh) := goodIn_app (goodIn_of _ (by decide +kernel)) ggX0_rowUpper_X0_weigh
theorem dX0_rowUpper_0 : decode cX0_rowUpper 0 = .ok (.aload_n 0, 1) := by decide +kernel
theorem dX0_rowUpper_1 : decode cX0_rowUpper 1 = .ok (.iload_n 1, 1) := by decide +kernel
theorem dX0_rowUpper_2 : decode cX0_rowUpper 2 = .ok (.iload_n 2, 1) := by decide +kernel
theorem dX0_rowUpper_3 : decode cX0_rowUpper 3 = .ok (.iload_n 3, 1) := by decide +kernel
theorem dX0_rowUpper_4 : decode cX0_rowUpper 4 = .ok (.invokevirtual 22, 3) := by decide +kernel
theorem dX0_rowUpper_7 : decode cX0_rowUpper 7 = .ok (.lconst 0, 1) := by decide +kernel
theorem dX0_rowUpper_8 : decode cX0_rowUpper 8 = .ok (.lstore 6, 2) := by decide +kernel
theorem dX0_rowUpper_10 : decode cX0_rowUpper 10 = .ok (.iconst 0, 1) := by decide +kernel
theorem dX0_rowUpper_11 : decode cX0_rowUpper 11 = .ok (.istore 8, 2) := by decide +kernel
theorem dX0_rowUpper_13 : decode cX0_rowUpper 13 = .ok (.iload 8, 2) := by decide +kernel
theorem dX0_rowUpper_15 : decode cX0_rowUpper 15 = .ok (.bipush 10, 2) := by decide +kernel
theorem dX0_rowUpper_17 : decode cX0_rowUpper 17 = .ok (.if_icmp .gt 73, 3) := by decide +kernel
theorem dX0_rowUpper_20 : decode cX0_rowUpper 20 = .ok (.aload_n 0, 1) := by decide +kernel
theorem dX0_rowUpper_21 : decode cX0_rowUpper 21 = .ok (.getfield 9, 3) := by decide +kernel
theorem dX0_rowUpper_24 : decode cX0_rowUpper 24 = .ok (.iload 8, 2) := by decide +kernel
theorem dX0_rowUpper_26 : decode cX0_rowUpper 26 = .ok (.laload, 1) := by decide +kernel
theorem dX0_rowUpper_27 : decode cX0_rowUpper 27 = .ok (.aload_n 0, 1) := by decide +kernel
theorem dX0_rowUpper_28 : decode cX0_rowUpper 28 = .ok (.getfield 15, 3) := by decide +kernel
theorem dX0_rowUpper_31 : decode cX0_rowUpper 31 = .ok (.iload 8, 2) := by decide +kernel
theorem dX0_rowUpper_33 : decode cX0_rowUpper 33 = .ok (.laload, 1) := by decide +kernel
theorem dX0_rowUpper_34 : decode cX0_rowUpper 34 = .ok (.ladd, 1) := by decide +kernel
theorem dX0_rowUpper_35 : decode cX0_rowUpper 35 = .ok (.lstore 9, 2) := by decide +kernel
theorem dX0_rowUpper_37 : decode cX0_rowUpper 37 = .ok (.iload 5, 2) := by decide +kernel
theorem dX0_rowUpper_39 : decode cX0_rowUpper 39 = .ok (.iconst 2, 1) := by decide +kernel
theorem dX0_rowUpper_40 : decode cX0_rowUpper 40 = .ok (.if_icmp .ne 17, 3) := by decide +kernel
theorem dX0_rowUpper_43 : decode cX0_rowUpper 43 = .ok (.lload 6, 2) := by decide +kernel
theorem dX0_rowUpper_45 : decode cX0_rowUpper 45 = .ok (.iload 8, 2) := by decide +kernel
theorem dX0_rowUpper_47 : decode cX0_rowUpper 47 = .ok (.i2l, 1) := by decide +kernel
theorem dX0_rowUpper_48 : decode cX0_rowUpper 48 = .ok (.lload 9, 2) := by decide +kernel
theorem dX0_rowUpper_50 : decode cX0_rowUpper 50 = .ok (.lmul, 1) := by decide +kernel
theorem dX0_rowUpper_51 : decode cX0_rowUpper 51 = .ok (.ladd, 1) := by decide +kernel
theorem dX0_rowUpper_52 : decode cX0_rowUpper 52 = .ok (.lstore 6, 2) := by decide +kernel
theorem dX0_rowUpper_54 : decode cX0_rowUpper 54 = .ok (.goto 30, 3) := by decide +kernel
theorem dX0_rowUpper_57 : decode cX0_rowUpper 57 = .ok (.iload 8, 2) := by decide +kernel
theorem dX0_rowUpper_59 : decode cX0_rowUpper 59 = .ok (.iload 4, 2) := by decide +kernel
theorem dX0_rowUpper_61 : decode cX0_rowUpper 61 = .ok (.if_icmp .eq 16, 3) := by decide +kernel
theorem dX0_rowUpper_64 : decode cX0_rowUpper 64 = .ok (.iload 5, 2) := by decide +kernel
theorem dX0_rowUpper_66 : decode cX0_rowUpper 66 = .ok (.iconst 1, 1) := by decide +kernel
theorem dX0_rowUpper_67 : decode cX0_rowUpper 67 = .ok (.if_icmp .ne 17, 3) := by decide +kernel
theorem dX0_rowUpper_70 : decode cX0_rowUpper 70 = .ok (.iload 8, 2) := by decide +kernel
theorem dX0_rowUpper_72 : decode cX0_rowUpper 72 = .ok (.iload 4, 2) := by decide +kernel
theorem dX0_rowUpper_74 : decode cX0_rowUpper 74 = .ok (.if_icmp .le 10, 3) := by decide +kernel
theorem dX0_rowUpper_77 : decode cX0_rowUpper 77 = .ok (.lload 6, 2) := by decide +kernel
theorem dX0_rowUpper_79 : decode cX0_rowUpper 79 = .ok (.lload 9, 2) := by decide +kernel
theorem dX0_rowUpper_81 : decode cX0_rowUpper 81 = .ok (.ladd, 1) := by decide +kernel
theorem dX0_rowUpper_82 : decode cX0_rowUpper 82 = .ok (.lstore 6, 2) := by decide +kernel
theorem dX0_rowUpper_84 : decode cX0_rowUpper 84 = .ok (.iinc 8 1, 3) := by decide +kernel
theorem dX0_rowUpper_87 : decode cX0_rowUpper 87 = .ok (.goto (-74), 3) := by decide +kernel
theorem dX0_rowUpper_90 : decode cX0_rowUpper 90 = .ok (.lload 6, 2) := by decide +kernel
theorem dX0_rowUpper_92 : decode cX0_rowUpper 92 = .ok (.lreturn, 1) := by decide +kernel
theorem dX0_rowLower_0 : decode cX0_rowLower 0 = .ok (.lconst 1, 1) := by decide +kernel
theorem dX0_rowLower_1 : decode cX0_rowLower 1 = .ok (.lstore_n 2, 1) := by decide +kernel
theorem dX0_rowLower_2 : decode cX0_rowLower 2 = .ok (.iconst 0, 1) := by decide +kernel
theorem dX0_rowLower_3 : decode cX0_rowLower 3 = .ok (.istore 4, 2) := by decide +kernel
theorem dX0_rowLower_5 : decode cX0_rowLower 5 = .ok (.iload 4, 2) := by decide +kernel
theorem dX0_rowLower_7 : decode cX0_rowLower 7 = .ok (.iload_n 1, 1) := by decide +kernel
theorem dX0_rowLower_8 : decode cX0_rowLower 8 = .ok (.if_icmp .ge 15, 3) := by decide +kernel
theorem dX0_rowLower_11 : decode cX0_rowLower 11 = .ok (.lload_n 2, 1) := by decide +kernel
theorem dX0_rowLower_12 : decode cX0_rowLower 12 = .ok (.ldc2_w 26, 3) := by decide +kernel
theorem dX0_rowLower_15 : decode cX0_rowLower 15 = .ok (.lmul, 1) := by decide +kernel
theorem dX0_rowLower_16 : decode cX0_rowLower 16 = .ok (.lstore_n 2, 1) := by decide +kernel
theorem dX0_rowLower_17 : decode cX0_rowLower 17 = .ok (.iinc 4 1, 3) := by decide +kernel
theorem dX0_rowLower_20 : decode cX0_rowLower 20 = .ok (.goto (-15), 3) := by decide +kernel
theorem dX0_rowLower_23 : decode cX0_rowLower 23 = .ok (.lload_n 2, 1) := by decide +kernel
theorem dX0_rowLower_24 : decode cX0_rowLower 24 = .ok (.lreturn, 1) := by decide +kernel
set_option maxRecDepth 20000 in
theorem ggX0_weigh_J7_fill_d0a16 : GoodIn wsX0_weigh wsJ7_fill_d0a16 := goodIn_r _ [6] (by decide +kernel) (by decide +kernel)
set_option maxRecDepth 20000 in
theorem gX0_weigh_J7_fill_d0a16 : GoodIn wsX0_weigh (va_wsS RX0 28 yJ7_fill_d0a16 wsJ7_fill_d0a16) := goodIn_app (goodIn_of _ (by decide +kernel)) ggX0_weigh_J7_fill_d0a16
theorem dX0_weigh_0 : decode cX0_weigh 0 = .ok (.aload_n 0, 1) := by decide +kernel
theorem dX0_weigh_1 : decode cX0_weigh 1 = .ok (.getfield 9, 3) := by decide +kernel
theorem dX0_weigh_4 : decode cX0_weigh 4 = .ok (.lconst 0, 1) := by decide +kernel
theorem dX0_weigh_5 : decode cX0_weigh 5 = .ok (.invokestatic 28, 3) := by decide +kernel
theorem dX0_weigh_8 : decode cX0_weigh 8 = .ok (.aload_n 0, 1) := by decide +kernel
theorem dX0_weigh_9 : decode cX0_weigh 9 = .ok (.getfield 15, 3) := by decide +kernel
theorem dX0_weigh_12 : decode cX0_weigh 12 = .ok (.lconst 0, 1) := by decide +kernel
theorem dX0_weigh_13 : decode cX0_weigh 13 = .ok (.invokestatic 28, 3) := by decide +kernel
theorem dX0_weigh_16 : decode cX0_weigh 16 = .ok (.aload_n 0, 1) := by decide +kernel
theorem dX0_weigh_17 : decode cX0_weigh 17 = .ok (.getfield 9, 3) := by decide +kernel
theorem dX0_weigh_20 : decode cX0_weigh 20 = .ok (.iconst 0, 1) := by decide +kernel
theorem dX0_weigh_21 : decode cX0_weigh 21 = .ok (.lconst 1, 1) := by decide +kernel
theorem dX0_weigh_22 : decode cX0_weigh 22 = .ok (.lastore, 1) := by decide +kernel
theorem dX0_weigh_23 : decode cX0_weigh 23 = .ok (.iconst 0, 1) := by decide +kernel
theorem dX0_weigh_24 : decode cX0_weigh 24 = .ok (.istore 4, 2) := by decide +kernel
theorem dX0_weigh_26 : decode cX0_weigh 26 = .ok (.iload 4, 2) := by decide +kernel
theorem dX0_weigh_28 : decode cX0_weigh 28 = .ok (.iload_n 1, 1) := by decide +kernel
theorem dX0_weigh_29 : decode cX0_weigh 29 = .ok (.if_icmp .ge 99, 3) := by decide +kernel
theorem dX0_weigh_32 : decode cX0_weigh 32 = .ok (.bipush 10, 2) := by decide +kernel
theorem dX0_weigh_34 : decode cX0_weigh 34 = .ok (.istore 5, 2) := by decide +kernel
theorem dX0_weigh_36 : decode cX0_weigh 36 = .ok (.iload 5, 2) := by decide +kernel
theorem dX0_weigh_38 : decode cX0_weigh 38 = .ok (.ifCond .lt 84, 3) := by decide +kernel
theorem dX0_weigh_41 : decode cX0_weigh 41 = .ok (.aload_n 0, 1) := by decide +kernel
theorem dX0_weigh_42 : decode cX0_weigh 42 = .ok (.getfield 15, 3) := by decide +kernel
theorem dX0_weigh_45 : decode cX0_weigh 45 = .ok (.iload 5, 2) := by decide +kernel
theorem dX0_weigh_47 : decode cX0_weigh 47 = .ok (.aload_n 0, 1) := by decide +kernel
theorem dX0_weigh_48 : decode cX0_weigh 48 = .ok (.getfield 9, 3) := by decide +kernel
theorem dX0_weigh_51 : decode cX0_weigh 51 = .ok (.iload 5, 2) := by decide +kernel
theorem dX0_weigh_53 : decode cX0_weigh 53 = .ok (.laload, 1) := by decide +kernel
theorem dX0_weigh_54 : decode cX0_weigh 54 = .ok (.bipush 10, 2) := by decide +kernel
theorem dX0_weigh_56 : decode cX0_weigh 56 = .ok (.iload_n 2, 1) := by decide +kernel
theorem dX0_weigh_57 : decode cX0_weigh 57 = .ok (.isub, 1) := by decide +kernel
theorem dX0_weigh_58 : decode cX0_weigh 58 = .ok (.i2l, 1) := by decide +kernel
theorem dX0_weigh_59 : decode cX0_weigh 59 = .ok (.lmul, 1) := by decide +kernel
theorem dX0_weigh_60 : decode cX0_weigh 60 = .ok (.aload_n 0, 1) := by decide +kernel
theorem dX0_weigh_61 : decode cX0_weigh 61 = .ok (.getfield 15, 3) := by decide +kernel
theorem dX0_weigh_64 : decode cX0_weigh 64 = .ok (.iload 5, 2) := by decide +kernel
theorem dX0_weigh_66 : decode cX0_weigh 66 = .ok (.laload, 1) := by decide +kernel
theorem dX0_weigh_67 : decode cX0_weigh 67 = .ok (.bipush 10, 2) := by decide +kernel
theorem dX0_weigh_69 : decode cX0_weigh 69 = .ok (.iload_n 3, 1) := by decide +kernel
theorem dX0_weigh_70 : decode cX0_weigh 70 = .ok (.isub, 1) := by decide +kernel
theorem dX0_weigh_71 : decode cX0_weigh 71 = .ok (.i2l, 1) := by decide +kernel
theorem dX0_weigh_72 : decode cX0_weigh 72 = .ok (.lmul, 1) := by decide +kernel
theorem dX0_weigh_73 : decode cX0_weigh 73 = .ok (.ladd, 1) := by decide +kernel
theorem dX0_weigh_74 : decode cX0_weigh 74 = .ok (.lastore, 1) := by decide +kernel
theorem dX0_weigh_75 : decode cX0_weigh 75 = .ok (.aload_n 0, 1) := by decide +kernel
theorem dX0_weigh_76 : decode cX0_weigh 76 = .ok (.getfield 9, 3) := by decide +kernel
theorem dX0_weigh_79 : decode cX0_weigh 79 = .ok (.iload 5, 2) := by decide +kernel
theorem dX0_weigh_81 : decode cX0_weigh 81 = .ok (.iload 5, 2) := by decide +kernel
theorem dX0_weigh_83 : decode cX0_weigh 83 = .ok (.ifCond .le 31, 3) := by decide +kernel
theorem dX0_weigh_86 : decode cX0_weigh 86 = .ok (.aload_n 0, 1) := by decide +kernel
theorem dX0_weigh_87 : decode cX0_weigh 87 = .ok (.getfield 9, 3) := by decide +kernel
theorem dX0_weigh_90 : decode cX0_weigh 90 = .ok (.iload 5, 2) := by decide +kernel
theorem dX0_weigh_92 : decode cX0_weigh 92 = .ok (.iconst 1, 1) := by decide +kernel
theorem dX0_weigh_93 : decode cX0_weigh 93 = .ok (.isub, 1) := by decide +kernel
theorem dX0_weigh_94 : decode cX0_weigh 94 = .ok (.laload, 1) := by decide +kernel
theorem dX0_weigh_95 : decode cX0_weigh 95 = .ok (.iload_n 2, 1) := by decide +kernel
theorem dX0_weigh_96 : decode cX0_weigh 96 = .ok (.i2l, 1) := by decide +kernel
theorem dX0_weigh_97 : decode cX0_weigh 97 = .ok (.lmul, 1) := by decide +kernel
theorem dX0_weigh_98 : decode cX0_weigh 98 = .ok (.aload_n 0, 1) := by decide +kernel
theorem dX0_weigh_99 : decode cX0_weigh 99 = .ok (.getfield 15, 3) := by decide +kernel
theorem dX0_weigh_102 : decode cX0_weigh 102 = .ok (.iload 5, 2) := by decide +kernel
theorem dX0_weigh_104 : decode cX0_weigh 104 = .ok (.iconst 1, 1) := by decide +kernel
theorem dX0_weigh_105 : decode cX0_weigh 105 = .ok (.isub, 1) := by decide +kernel
theorem dX0_weigh_106 : decode cX0_weigh 106 = .ok (.laload, 1) := by decide +kernel
theorem dX0_weigh_107 : decode cX0_weigh 107 = .ok (.iload_n 3, 1) := by decide +kernel
theorem dX0_weigh_108 : decode cX0_weigh 108 = .ok (.i2l, 1) := by decide +kernel
theorem dX0_weigh_109 : decode cX0_weigh 109 = .ok (.lmul, 1) := by decide +kernel
theorem dX0_weigh_110 : decode cX0_weigh 110 = .ok (.ladd, 1) := by decide +kernel
theorem dX0_weigh_111 : decode cX0_weigh 111 = .ok (.goto 4, 3) := by decide +kernel
theorem dX0_weigh_114 : decode cX0_weigh 114 = .ok (.lconst 0, 1) := by decide +kernel
theorem dX0_weigh_115 : decode cX0_weigh 115 = .ok (.lastore, 1) := by decide +kernel
theorem dX0_weigh_116 : decode cX0_weigh 116 = .ok (.iinc 5 (-1), 3) := by decide +kernel
theorem dX0_weigh_119 : decode cX0_weigh 119 = .ok (.goto (-83), 3) := by decide +kernel
theorem dX0_weigh_122 : decode cX0_weigh 122 = .ok (.iinc 4 1, 3) := by decide +kernel
theorem dX0_weigh_125 : decode cX0_weigh 125 = .ok (.goto (-99), 3) := by decide +kernel
theorem dX0_weigh_128 : decode cX0_weigh 128 = .ok (.return_, 1) := by decide +kernel
set_option maxRecDepth 20000 in
theorem ggX0_firstTake_X6_within : GoodIn wsX0_firstTake wsX6_within := goodIn_r _ [4] (by decide +kernel) (by decide +kernel)
set_option maxRecDepth 20000 in
theorem gX0_firstTake_X6_within_n34 : GoodIn wsX0_firstTake (wsX6_within) := ggX0_firstTake_X6_within
set_option maxRecDepth 20000 in
theorem ggX0_firstTake_X0_leastTake : GoodIn wsX0_firstTake wsX0_leastTake := goodIn_r _ [9, 1, 2, 3, 4, 10, 11, 12] (by decide +kernel) (by decide +kernel)
set_option maxRecDepth 20000 in
theorem gX0_firstTake_X0_leastTake : GoodIn wsX0_firstTake (wsV RX0 38 RX0 yX0_leastTake wsX0_leastTake) := goodIn_app (goodIn_of _ (by decide +kernel)) ggX0_firstTake_X0_leastTake
theorem dX0_firstTake_0 : decode cX0_firstTake 0 = .ok (.iload_n 1, 1) := by decide +kernel
theorem dX0_firstTake_1 : decode cX0_firstTake 1 = .ok (.iconst 1, 1) := by decide +kernel
theorem dX0_firstTake_2 : decode cX0_firstTake 2 = .ok (.bipush 60, 2) := by decide +kernel
theorem dX0_firstTake_4 : decode cX0_firstTake 4 = .ok (.invokestatic 34, 3) := by decide +kernel
theorem dX0_firstTake_7 : decode cX0_firstTake 7 = .ok (.ifCond .ne 6, 3) := by decide +kernel
theorem dX0_firstTake_10 : decode cX0_firstTake 10 = .ok (.bipush (-6), 2) := by decide +kernel
theorem dX0_firstTake_12 : decode cX0_firstTake 12 = .ok (.ireturn, 1) := by decide +kernel
theorem dX0_firstTake_13 : decode cX0_firstTake 13 = .ok (.iconst 1, 1) := by decide +kernel
theorem dX0_firstTake_14 : decode cX0_firstTake 14 = .ok (.istore_n 2, 1) := by decide +kernel
theorem dX0_firstTake_15 : decode cX0_firstTake 15 = .ok (.iload_n 2, 1) := by decide +kernel
theorem dX0_firstTake_16 : decode cX0_firstTake 16 = .ok (.iload_n 1, 1) := by decide +kernel
theorem dX0_firstTake_17 : decode cX0_firstTake 17 = .ok (.if_icmp .gt 20, 3) := by decide +kernel
theorem dX0_firstTake_20 : decode cX0_firstTake 20 = .ok (.aload_n 0, 1) := by decide +kernel
theorem dX0_firstTake_21 : decode cX0_firstTake 21 = .ok (.getfield 18, 3) := by decide +kernel
theorem dX0_firstTake_24 : decode cX0_firstTake 24 = .ok (.iload_n 2, 1) := by decide +kernel
theorem dX0_firstTake_25 : decode cX0_firstTake 25 = .ok (.aload_n 0, 1) := by decide +kernel
theorem dX0_firstTake_26 : decode cX0_firstTake 26 = .ok (.iload_n 2, 1) := by decide +kernel
theorem dX0_firstTake_27 : decode cX0_firstTake 27 = .ok (.invokevirtual 38, 3) := by decide +kernel
theorem dX0_firstTake_30 : decode cX0_firstTake 30 = .ok (.iastore, 1) := by decide +kernel
theorem dX0_firstTake_31 : decode cX0_firstTake 31 = .ok (.iinc 2 1, 3) := by decide +kernel
theorem dX0_firstTake_34 : decode cX0_firstTake 34 = .ok (.goto (-19), 3) := by decide +kernel
theorem dX0_firstTake_37 : decode cX0_firstTake 37 = .ok (.aload_n 0, 1) := by decide +kernel
theorem dX0_firstTake_38 : decode cX0_firstTake 38 = .ok (.getfield 18, 3) := by decide +kernel
theorem dX0_firstTake_41 : decode cX0_firstTake 41 = .ok (.iload_n 1, 1) := by decide +kernel
theorem dX0_firstTake_42 : decode cX0_firstTake 42 = .ok (.iaload, 1) := by decide +kernel
theorem dX0_firstTake_43 : decode cX0_firstTake 43 = .ok (.iload_n 1, 1) := by decide +kernel
theorem dX0_firstTake_44 : decode cX0_firstTake 44 = .ok (.if_icmp .ge 12, 3) := by decide +kernel
theorem dX0_firstTake_47 : decode cX0_firstTake 47 = .ok (.aload_n 0, 1) := by decide +kernel
theorem dX0_firstTake_48 : decode cX0_firstTake 48 = .ok (.getfield 18, 3) := by decide +kernel
theorem dX0_firstTake_51 : decode cX0_firstTake 51 = .ok (.iload_n 1, 1) := by decide +kernel
theorem dX0_firstTake_52 : decode cX0_firstTake 52 = .ok (.iaload, 1) := by decide +kernel
theorem dX0_firstTake_53 : decode cX0_firstTake 53 = .ok (.goto 5, 3) := by decide +kernel
theorem dX0_firstTake_56 : decode cX0_firstTake 56 = .ok (.bipush (-6), 2) := by decide +kernel
theorem dX0_firstTake_58 : decode cX0_firstTake 58 = .ok (.ireturn, 1) := by decide +kernel
set_option maxRecDepth 20000 in
theorem ggX0_leastTake_X6_within : GoodIn wsX0_leastTake wsX6_within := goodIn_r _ [4] (by decide +kernel) (by decide +kernel)
set_option maxRecDepth 20000 in
theorem gX0_leastTake_X6_within_n34 : GoodIn wsX0_leastTake (wsX6_within) := ggX0_leastTake_X6_within
theorem dX0_leastTake_0 : decode cX0_leastTake 0 = .ok (.iconst 1, 1) := by decide +kernel
theorem dX0_leastTake_1 : decode cX0_leastTake 1 = .ok (.istore_n 2, 1) := by decide +kernel
theorem dX0_leastTake_2 : decode cX0_leastTake 2 = .ok (.iload_n 2, 1) := by decide +kernel
theorem dX0_leastTake_3 : decode cX0_leastTake 3 = .ok (.iload_n 1, 1) := by decide +kernel
theorem dX0_leastTake_4 : decode cX0_leastTake 4 = .ok (.if_icmp .ge 37, 3) := by decide +kernel
theorem dX0_leastTake_7 : decode cX0_leastTake 7 = .ok (.iload_n 1, 1) := by decide +kernel
theorem dX0_leastTake_8 : decode cX0_leastTake 8 = .ok (.iload_n 2, 1) := by decide +kernel
theorem dX0_leastTake_9 : decode cX0_leastTake 9 = .ok (.isub, 1) := by decide +kernel
theorem dX0_leastTake_10 : decode cX0_leastTake 10 = .ok (.istore_n 3, 1) := by decide +kernel
theorem dX0_leastTake_11 : decode cX0_leastTake 11 = .ok (.iload_n 3, 1) := by decide +kernel
theorem dX0_leastTake_12 : decode cX0_leastTake 12 = .ok (.iconst 1, 1) := by decide +kernel
theorem dX0_leastTake_13 : decode cX0_leastTake 13 = .ok (.bipush 60, 2) := by decide +kernel
theorem dX0_leastTake_15 : decode cX0_leastTake 15 = .ok (.invokestatic 34, 3) := by decide +kernel
theorem dX0_leastTake_18 : decode cX0_leastTake 18 = .ok (.ifCond .eq 17, 3) := by decide +kernel
theorem dX0_leastTake_21 : decode cX0_leastTake 21 = .ok (.aload_n 0, 1) := by decide +kernel
theorem dX0_leastTake_22 : decode cX0_leastTake 22 = .ok (.getfield 18, 3) := by decide +kernel
theorem dX0_leastTake_25 : decode cX0_leastTake 25 = .ok (.iload_n 3, 1) := by decide +kernel
theorem dX0_leastTake_26 : decode cX0_leastTake 26 = .ok (.iaload, 1) := by decide +kernel
theorem dX0_leastTake_27 : decode cX0_leastTake 27 = .ok (.iconst 2, 1) := by decide +kernel
theorem dX0_leastTake_28 : decode cX0_leastTake 28 = .ok (.iload_n 2, 1) := by decide +kernel
theorem dX0_leastTake_29 : decode cX0_leastTake 29 = .ok (.imul, 1) := by decide +kernel
theorem dX0_leastTake_30 : decode cX0_leastTake 30 = .ok (.if_icmp .le 5, 3) := by decide +kernel
theorem dX0_leastTake_33 : decode cX0_leastTake 33 = .ok (.iload_n 2, 1) := by decide +kernel
theorem dX0_leastTake_34 : decode cX0_leastTake 34 = .ok (.ireturn, 1) := by decide +kernel
theorem dX0_leastTake_35 : decode cX0_leastTake 35 = .ok (.iinc 2 1, 3) := by decide +kernel
theorem dX0_leastTake_38 : decode cX0_leastTake 38 = .ok (.goto (-36), 3) := by decide +kernel
theorem dX0_leastTake_41 : decode cX0_leastTake 41 = .ok (.iload_n 1, 1) := by decide +kernel
theorem dX0_leastTake_42 : decode cX0_leastTake 42 = .ok (.ireturn, 1) := by decide +kernel
set_option maxRecDepth 20000 in
theorem ggX1_init_J7_fill_53178 : GoodIn wsX1_init wsJ7_fill_53178 := goodIn_r _ [16] (by decide +kernel) (by decide +kernel)
set_option maxRecDepth 20000 in
theorem gX1_init_J7_fill_53178 : GoodIn wsX1_init (va_wsS RX1 37 yJ7_fill_53178 wsJ7_fill_53178) := goodIn_app (goodIn_of _ (by decide +kernel)) ggX1_init_J7_fill_53178
theorem dX1_init_0 : decode cX1_init 0 = .ok (.aload_n 0, 1) := by decide +kernel
theorem dX1_init_1 : decode cX1_init 1 = .ok (.invokespecial 3, 3) := by decide +kernel
theorem dX1_init_4 : decode cX1_init 4 = .ok (.aload_n 0, 1) := by decide +kernel
theorem dX1_init_5 : decode cX1_init 5 = .ok (.bipush 121, 2) := by decide +kernel
theorem dX1_init_7 : decode cX1_init 7 = .ok (.newarray .int, 2) := by decide +kernel
theorem dX1_init_9 : decode cX1_init 9 = .ok (.putfield 9, 3) := by decide +kernel
theorem dX1_init_12 : decode cX1_init 12 = .ok (.aload_n 0, 1) := by decide +kernel
theorem dX1_init_13 : decode cX1_init 13 = .ok (.bipush 10, 2) := by decide +kernel
theorem dX1_init_15 : decode cX1_init 15 = .ok (.newarray .int, 2) := by decide +kernel
theorem dX1_init_17 : decode cX1_init 17 = .ok (.putfield 15, 3) := by decide +kernel
theorem dX1_init_20 : decode cX1_init 20 = .ok (.aload_n 0, 1) := by decide +kernel
theorem dX1_init_21 : decode cX1_init 21 = .ok (.bipush 10, 2) := by decide +kernel
theorem dX1_init_23 : decode cX1_init 23 = .ok (.newarray .int, 2) := by decide +kernel
theorem dX1_init_25 : decode cX1_init 25 = .ok (.putfield 18, 3) := by decide +kernel
theorem dX1_init_28 : decode cX1_init 28 = .ok (.aload_n 0, 1) := by decide +kernel
theorem dX1_init_29 : decode cX1_init 29 = .ok (.bipush 10, 2) := by decide +kernel
theorem dX1_init_31 : decode cX1_init 31 = .ok (.newarray .int, 2) := by decide +kernel
theorem dX1_init_33 : decode cX1_init 33 = .ok (.putfield 21, 3) := by decide +kernel
theorem dX1_init_36 : decode cX1_init 36 = .ok (.aload_n 0, 1) := by decide +kernel
theorem dX1_init_37 : decode cX1_init 37 = .ok (.bipush 10, 2) := by decide +kernel
theorem dX1_init_39 : decode cX1_init 39 = .ok (.newarray .int, 2) := by decide +kernel
theorem dX1_init_41 : decode cX1_init 41 = .ok (.putfield 24, 3) := by decide +kernel
theorem dX1_init_44 : decode cX1_init 44 = .ok (.aload_n 0, 1) := by decide +kernel
theorem dX1_init_45 : decode cX1_init 45 = .ok (.bipush 8, 2) := by decide +kernel
theorem dX1_init_47 : decode cX1_init 47 = .ok (.newarray .int, 2) := by decide +kernel
theorem dX1_init_49 : decode cX1_init 49 = .ok (.putfield 27, 3) := by decide +kernel
theorem dX1_init_52 : decode cX1_init 52 = .ok (.aload_n 0, 1) := by decide +kernel
theorem dX1_init_53 : decode cX1_init 53 = .ok (.bipush 8, 2) := by decide +kernel
theorem dX1_init_55 : decode cX1_init 55 = .ok (.newarray .int, 2) := by decide +kernel
theorem dX1_init_57 : decode cX1_init 57 = .ok (.putfield 30, 3) := by decide +kernel
theorem dX1_init_60 : decode cX1_init 60 = .ok (.aload_n 0, 1) := by decide +kernel
theorem dX1_init_61 : decode cX1_init 61 = .ok (.bipush 10, 2) := by decide +kernel
theorem dX1_init_63 : decode cX1_init 63 = .ok (.putfield 33, 3) := by decide +kernel
theorem dX1_init_66 : decode cX1_init 66 = .ok (.aload_n 0, 1) := by decide +kernel
theorem dX1_init_67 : decode cX1_init 67 = .ok (.getfield 15, 3) := by decide +kernel
theorem dX1_init_70 : decode cX1_init 70 = .ok (.iconst 5, 1) := by decide +kernel
theorem dX1_init_71 : decode cX1_init 71 = .ok (.invokestatic 37, 3) := by decide +kernel
theorem dX1_init_74 : decode cX1_init 74 = .ok (.aload_n 0, 1) := by decide +kernel
theorem dX1_init_75 : decode cX1_init 75 = .ok (.getfield 21, 3) := by decide +kernel
theorem dX1_init_78 : decode cX1_init 78 = .ok (.bipush (-6), 2) := by decide +kernel
theorem dX1_init_80 : decode cX1_init 80 = .ok (.invokestatic 37, 3) := by decide +kernel
theorem dX1_init_83 : decode cX1_init 83 = .ok (.iconst 0, 1) := by decide +kernel
theorem dX1_init_84 : decode cX1_init 84 = .ok (.istore_n 1, 1) := by decide +kernel
theorem dX1_init_85 : decode cX1_init 85 = .ok (.iload_n 1, 1) := by decide +kernel
theorem dX1_init_86 : decode cX1_init 86 = .ok (.bipush 10, 2) := by decide +kernel
theorem dX1_init_88 : decode cX1_init 88 = .ok (.if_icmp .ge 16, 3) := by decide +kernel
theorem dX1_init_91 : decode cX1_init 91 = .ok (.aload_n 0, 1) := by decide +kernel
theorem dX1_init_92 : decode cX1_init 92 = .ok (.getfield 24, 3) := by decide +kernel
theorem dX1_init_95 : decode cX1_init 95 = .ok (.iload_n 1, 1) := by decide +kernel
theorem dX1_init_96 : decode cX1_init 96 = .ok (.iload_n 1, 1) := by decide +kernel
theorem dX1_init_97 : decode cX1_init 97 = .ok (.iastore, 1) := by decide +kernel
theorem dX1_init_98 : decode cX1_init 98 = .ok (.iinc 1 1, 3) := by decide +kernel
theorem dX1_init_101 : decode cX1_init 101 = .ok (.goto (-16), 3) := by decide +kernel
theorem dX1_init_104 : decode cX1_init 104 = .ok (.return_, 1) := by decide +kernel
theorem dX1_copyFrom_0 : decode cX1_copyFrom 0 = .ok (.aload_n 1, 1) := by decide +kernel
theorem dX1_copyFrom_1 : decode cX1_copyFrom 1 = .ok (.getfield 9, 3) := by decide +kernel
theorem dX1_copyFrom_4 : decode cX1_copyFrom 4 = .ok (.iconst 0, 1) := by decide +kernel
theorem dX1_copyFrom_5 : decode cX1_copyFrom 5 = .ok (.aload_n 0, 1) := by decide +kernel
theorem dX1_copyFrom_6 : decode cX1_copyFrom 6 = .ok (.getfield 9, 3) := by decide +kernel
theorem dX1_copyFrom_9 : decode cX1_copyFrom 9 = .ok (.iconst 0, 1) := by decide +kernel
theorem dX1_copyFrom_10 : decode cX1_copyFrom 10 = .ok (.bipush 121, 2) := by decide +kernel
theorem dX1_copyFrom_12 : decode cX1_copyFrom 12 = .ok (.invokestatic 43, 3) := by decide +kernel
theorem dX1_copyFrom_15 : decode cX1_copyFrom 15 = .ok (.aload_n 1, 1) := by decide +kernel
theorem dX1_copyFrom_16 : decode cX1_copyFrom 16 = .ok (.getfield 15, 3) := by decide +kernel
theorem dX1_copyFrom_19 : decode cX1_copyFrom 19 = .ok (.iconst 0, 1) := by decide +kernel
theorem dX1_copyFrom_20 : decode cX1_copyFrom 20 = .ok (.aload_n 0, 1) := by decide +kernel
theorem dX1_copyFrom_21 : decode cX1_copyFrom 21 = .ok (.getfield 15, 3) := by decide +kernel
theorem dX1_copyFrom_24 : decode cX1_copyFrom 24 = .ok (.iconst 0, 1) := by decide +kernel
theorem dX1_copyFrom_25 : decode cX1_copyFrom 25 = .ok (.bipush 10, 2) := by decide +kernel
theorem dX1_copyFrom_27 : decode cX1_copyFrom 27 = .ok (.invokestatic 43, 3) := by decide +kernel
theorem dX1_copyFrom_30 : decode cX1_copyFrom 30 = .ok (.aload_n 1, 1) := by decide +kernel
theorem dX1_copyFrom_31 : decode cX1_copyFrom 31 = .ok (.getfield 18, 3) := by decide +kernel
theorem dX1_copyFrom_34 : decode cX1_copyFrom 34 = .ok (.iconst 0, 1) := by decide +kernel
theorem dX1_copyFrom_35 : decode cX1_copyFrom 35 = .ok (.aload_n 0, 1) := by decide +kernel
theorem dX1_copyFrom_36 : decode cX1_copyFrom 36 = .ok (.getfield 18, 3) := by decide +kernel
theorem dX1_copyFrom_39 : decode cX1_copyFrom 39 = .ok (.iconst 0, 1) := by decide +kernel
theorem dX1_copyFrom_40 : decode cX1_copyFrom 40 = .ok (.bipush 10, 2) := by decide +kernel
theorem dX1_copyFrom_42 : decode cX1_copyFrom 42 = .ok (.invokestatic 43, 3) := by decide +kernel
theorem dX1_copyFrom_45 : decode cX1_copyFrom 45 = .ok (.aload_n 1, 1) := by decide +kernel
theorem dX1_copyFrom_46 : decode cX1_copyFrom 46 = .ok (.getfield 21, 3) := by decide +kernel
theorem dX1_copyFrom_49 : decode cX1_copyFrom 49 = .ok (.iconst 0, 1) := by decide +kernel
theorem dX1_copyFrom_50 : decode cX1_copyFrom 50 = .ok (.aload_n 0, 1) := by decide +kernel
theorem dX1_copyFrom_51 : decode cX1_copyFrom 51 = .ok (.getfield 21, 3) := by decide +kernel
theorem dX1_copyFrom_54 : decode cX1_copyFrom 54 = .ok (.iconst 0, 1) := by decide +kernel
theorem dX1_copyFrom_55 : decode cX1_copyFrom 55 = .ok (.bipush 10, 2) := by decide +kernel
theorem dX1_copyFrom_57 : decode cX1_copyFrom 57 = .ok (.invokestatic 43, 3) := by decide +kernel
theorem dX1_copyFrom_60 : decode cX1_copyFrom 60 = .ok (.aload_n 1, 1) := by decide +kernel
theorem dX1_copyFrom_61 : decode cX1_copyFrom 61 = .ok (.getfield 24, 3) := by decide +kernel
theorem dX1_copyFrom_64 : decode cX1_copyFrom 64 = .ok (.iconst 0, 1) := by decide +kernel
theorem dX1_copyFrom_65 : decode cX1_copyFrom 65 = .ok (.aload_n 0, 1) := by decide +kernel
theorem dX1_copyFrom_66 : decode cX1_copyFrom 66 = .ok (.getfield 24, 3) := by decide +kernel
theorem dX1_copyFrom_69 : decode cX1_copyFrom 69 = .ok (.iconst 0, 1) := by decide +kernel
theorem dX1_copyFrom_70 : decode cX1_copyFrom 70 = .ok (.bipush 10, 2) := by decide +kernel
theorem dX1_copyFrom_72 : decode cX1_copyFrom 72 = .ok (.invokestatic 43, 3) := by decide +kernel
theorem dX1_copyFrom_75 : decode cX1_copyFrom 75 = .ok (.aload_n 1, 1) := by decide +kernel
theorem dX1_copyFrom_76 : decode cX1_copyFrom 76 = .ok (.getfield 27, 3) := by decide +kernel
theorem dX1_copyFrom_79 : decode cX1_copyFrom 79 = .ok (.iconst 0, 1) := by decide +kernel
theorem dX1_copyFrom_80 : decode cX1_copyFrom 80 = .ok (.aload_n 0, 1) := by decide +kernel
theorem dX1_copyFrom_81 : decode cX1_copyFrom 81 = .ok (.getfield 27, 3) := by decide +kernel
theorem dX1_copyFrom_84 : decode cX1_copyFrom 84 = .ok (.iconst 0, 1) := by decide +kernel
theorem dX1_copyFrom_85 : decode cX1_copyFrom 85 = .ok (.bipush 8, 2) := by decide +kernel
theorem dX1_copyFrom_87 : decode cX1_copyFrom 87 = .ok (.invokestatic 43, 3) := by decide +kernel
theorem dX1_copyFrom_90 : decode cX1_copyFrom 90 = .ok (.aload_n 1, 1) := by decide +kernel
theorem dX1_copyFrom_91 : decode cX1_copyFrom 91 = .ok (.getfield 30, 3) := by decide +kernel
theorem dX1_copyFrom_94 : decode cX1_copyFrom 94 = .ok (.iconst 0, 1) := by decide +kernel
theorem dX1_copyFrom_95 : decode cX1_copyFrom 95 = .ok (.aload_n 0, 1) := by decide +kernel
theorem dX1_copyFrom_96 : decode cX1_copyFrom 96 = .ok (.getfield 30, 3) := by decide +kernel
theorem dX1_copyFrom_99 : decode cX1_copyFrom 99 = .ok (.iconst 0, 1) := by decide +kernel
theorem dX1_copyFrom_100 : decode cX1_copyFrom 100 = .ok (.bipush 8, 2) := by decide +kernel
theorem dX1_copyFrom_102 : decode cX1_copyFrom 102 = .ok (.invokestatic 43, 3) := by decide +kernel
theorem dX1_copyFrom_105 : decode cX1_copyFrom 105 = .ok (.aload_n 0, 1) := by decide +kernel
theorem dX1_copyFrom_106 : decode cX1_copyFrom 106 = .ok (.aload_n 1, 1) := by decide +kernel
theorem dX1_copyFrom_107 : decode cX1_copyFrom 107 = .ok (.getfield 49, 3) := by decide +kernel
theorem dX1_copyFrom_110 : decode cX1_copyFrom 110 = .ok (.putfield 49, 3) := by decide +kernel
theorem dX1_copyFrom_113 : decode cX1_copyFrom 113 = .ok (.aload_n 0, 1) := by decide +kernel
theorem dX1_copyFrom_114 : decode cX1_copyFrom 114 = .ok (.aload_n 1, 1) := by decide +kernel
theorem dX1_copyFrom_115 : decode cX1_copyFrom 115 = .ok (.getfield 33, 3) := by decide +kernel
theorem dX1_copyFrom_118 : decode cX1_copyFrom 118 = .ok (.putfield 33, 3) := by decide +kernel
theorem dX1_copyFrom_121 : decode cX1_copyFrom 121 = .ok (.aload_n 0, 1) := by decide +kernel
theorem dX1_copyFrom_122 : decode cX1_copyFrom 122 = .ok (.aload_n 1, 1) := by decide +kernel
theorem dX1_copyFrom_123 : decode cX1_copyFrom 123 = .ok (.getfield 52, 3) := by decide +kernel
theorem dX1_copyFrom_126 : decode cX1_copyFrom 126 = .ok (.putfield 52, 3) := by decide +kernel
theorem dX1_copyFrom_129 : decode cX1_copyFrom 129 = .ok (.aload_n 0, 1) := by decide +kernel
theorem dX1_copyFrom_130 : decode cX1_copyFrom 130 = .ok (.aload_n 1, 1) := by decide +kernel
theorem dX1_copyFrom_131 : decode cX1_copyFrom 131 = .ok (.getfield 55, 3) := by decide +kernel
theorem dX1_copyFrom_134 : decode cX1_copyFrom 134 = .ok (.putfield 55, 3) := by decide +kernel
theorem dX1_copyFrom_137 : decode cX1_copyFrom 137 = .ok (.aload_n 0, 1) := by decide +kernel
theorem dX1_copyFrom_138 : decode cX1_copyFrom 138 = .ok (.aload_n 1, 1) := by decide +kernel
theorem dX1_copyFrom_139 : decode cX1_copyFrom 139 = .ok (.getfield 58, 3) := by decide +kernel
theorem dX1_copyFrom_142 : decode cX1_copyFrom 142 = .ok (.putfield 58, 3) := by decide +kernel
theorem dX1_copyFrom_145 : decode cX1_copyFrom 145 = .ok (.return_, 1) := by decide +kernel
set_option maxRecDepth 20000 in
theorem ggX1_longBetween_X6_isPlace : GoodIn wsX1_longBetween wsX6_isPlace := goodIn_r _ [4] (by decide +kernel) (by decide +kernel)
set_option maxRecDepth 20000 in
theorem gX1_longBetween_X6_isPlace_n61 : GoodIn wsX1_longBetween (wsX6_isPlace) := ggX1_longBetween_X6_isPlace
theorem dX1_longBetween_0 : decode cX1_longBetween 0 = .ok (.iload_n 1, 1) := by decide +kernel
theorem dX1_longBetween_1 : decode cX1_longBetween 1 = .ok (.invokestatic 61, 3) := by decide +kernel
theorem dX1_longBetween_4 : decode cX1_longBetween 4 = .ok (.ifCond .eq 24, 3) := by decide +kernel
theorem dX1_longBetween_7 : decode cX1_longBetween 7 = .ok (.iload_n 2, 1) := by decide +kernel
theorem dX1_longBetween_8 : decode cX1_longBetween 8 = .ok (.invokestatic 61, 3) := by decide +kernel
theorem dX1_longBetween_11 : decode cX1_longBetween 11 = .ok (.ifCond .eq 17, 3) := by decide +kernel
theorem dX1_longBetween_14 : decode cX1_longBetween 14 = .ok (.aload_n 0, 1) := by decide +kernel
theorem dX1_longBetween_15 : decode cX1_longBetween 15 = .ok (.getfield 9, 3) := by decide +kernel
theorem dX1_longBetween_18 : decode cX1_longBetween 18 = .ok (.iload_n 1, 1) := by decide +kernel
theorem dX1_longBetween_19 : decode cX1_longBetween 19 = .ok (.bipush 11, 2) := by decide +kernel
theorem dX1_longBetween_21 : decode cX1_longBetween 21 = .ok (.imul, 1) := by decide +kernel
theorem dX1_longBetween_22 : decode cX1_longBetween 22 = .ok (.iload_n 2, 1) := by decide +kernel
theorem dX1_longBetween_23 : decode cX1_longBetween 23 = .ok (.iadd, 1) := by decide +kernel
theorem dX1_longBetween_24 : decode cX1_longBetween 24 = .ok (.iaload, 1) := by decide +kernel
theorem dX1_longBetween_25 : decode cX1_longBetween 25 = .ok (.goto 4, 3) := by decide +kernel
theorem dX1_longBetween_28 : decode cX1_longBetween 28 = .ok (.iconst 0, 1) := by decide +kernel
theorem dX1_longBetween_29 : decode cX1_longBetween 29 = .ok (.ireturn, 1) := by decide +kernel
set_option maxRecDepth 20000 in
theorem ggX1_layRoad_X6_isPlace : GoodIn wsX1_layRoad wsX6_isPlace := goodIn_r _ [4] (by decide +kernel) (by decide +kernel)
set_option maxRecDepth 20000 in
theorem gX1_layRoad_X6_isPlace_n61 : GoodIn wsX1_layRoad (wsX6_isPlace) := ggX1_layRoad_X6_isPlace
theorem dX1_layRoad_0 : decode cX1_layRoad 0 = .ok (.iload_n 1, 1) := by decide +kernel
theorem dX1_layRoad_1 : decode cX1_layRoad 1 = .ok (.invokestatic 61, 3) := by decide +kernel
theorem dX1_layRoad_4 : decode cX1_layRoad 4 = .ok (.ifCond .eq 34, 3) := by decide +kernel
theorem dX1_layRoad_7 : decode cX1_layRoad 7 = .ok (.iload_n 2, 1) := by decide +kernel
theorem dX1_layRoad_8 : decode cX1_layRoad 8 = .ok (.invokestatic 61, 3) := by decide +kernel
theorem dX1_layRoad_11 : decode cX1_layRoad 11 = .ok (.ifCond .eq 27, 3) := by decide +kernel
theorem dX1_layRoad_14 : decode cX1_layRoad 14 = .ok (.aload_n 0, 1) := by decide +kernel
theorem dX1_layRoad_15 : decode cX1_layRoad 15 = .ok (.getfield 9, 3) := by decide +kernel
theorem dX1_layRoad_18 : decode cX1_layRoad 18 = .ok (.iload_n 1, 1) := by decide +kernel
theorem dX1_layRoad_19 : decode cX1_layRoad 19 = .ok (.bipush 11, 2) := by decide +kernel
theorem dX1_layRoad_21 : decode cX1_layRoad 21 = .ok (.imul, 1) := by decide +kernel
theorem dX1_layRoad_22 : decode cX1_layRoad 22 = .ok (.iload_n 2, 1) := by decide +kernel
theorem dX1_layRoad_23 : decode cX1_layRoad 23 = .ok (.iadd, 1) := by decide +kernel
theorem dX1_layRoad_24 : decode cX1_layRoad 24 = .ok (.iload_n 3, 1) := by decide +kernel
theorem dX1_layRoad_25 : decode cX1_layRoad 25 = .ok (.iastore, 1) := by decide +kernel
theorem dX1_layRoad_26 : decode cX1_layRoad 26 = .ok (.aload_n 0, 1) := by decide +kernel
theorem dX1_layRoad_27 : decode cX1_layRoad 27 = .ok (.getfield 9, 3) := by decide +kernel
theorem dX1_layRoad_30 : decode cX1_layRoad 30 = .ok (.iload_n 2, 1) := by decide +kernel
theorem dX1_layRoad_31 : decode cX1_layRoad 31 = .ok (.bipush 11, 2) := by decide +kernel
theorem dX1_layRoad_33 : decode cX1_layRoad 33 = .ok (.imul, 1) := by decide +kernel
theorem dX1_layRoad_34 : decode cX1_layRoad 34 = .ok (.iload_n 1, 1) := by decide +kernel
theorem dX1_layRoad_35 : decode cX1_layRoad 35 = .ok (.iadd, 1) := by decide +kernel
theorem dX1_layRoad_36 : decode cX1_layRoad 36 = .ok (.iload_n 3, 1) := by decide +kernel
theorem dX1_layRoad_37 : decode cX1_layRoad 37 = .ok (.iastore, 1) := by decide +kernel
theorem dX1_layRoad_38 : decode cX1_layRoad 38 = .ok (.return_, 1) := by decide +kernel
set_option maxRecDepth 20000 in
theorem ggX1_doubtOf_X6_isHouse : GoodIn wsX1_doubtOf wsX6_isHouse := goodIn_r _ [4] (by decide +kernel) (by decide +kernel)
set_option maxRecDepth 20000 in
theorem gX1_doubtOf_X6_isHouse_n65 : GoodIn wsX1_doubtOf (wsX6_isHouse) := ggX1_doubtOf_X6_isHouse
theorem dX1_doubtOf_0 : decode cX1_doubtOf 0 = .ok (.iload_n 1, 1) := by decide +kernel
theorem dX1_doubtOf_1 : decode cX1_doubtOf 1 = .ok (.invokestatic 65, 3) := by decide +kernel
theorem dX1_doubtOf_4 : decode cX1_doubtOf 4 = .ok (.ifCond .eq 12, 3) := by decide +kernel
theorem dX1_doubtOf_7 : decode cX1_doubtOf 7 = .ok (.aload_n 0, 1) := by decide +kernel
theorem dX1_doubtOf_8 : decode cX1_doubtOf 8 = .ok (.getfield 15, 3) := by decide +kernel
theorem dX1_doubtOf_11 : decode cX1_doubtOf 11 = .ok (.iload_n 1, 1) := by decide +kernel
theorem dX1_doubtOf_12 : decode cX1_doubtOf 12 = .ok (.iaload, 1) := by decide +kernel
theorem dX1_doubtOf_13 : decode cX1_doubtOf 13 = .ok (.goto 5, 3) := by decide +kernel
theorem dX1_doubtOf_16 : decode cX1_doubtOf 16 = .ok (.bipush 9, 2) := by decide +kernel
theorem dX1_doubtOf_18 : decode cX1_doubtOf 18 = .ok (.ireturn, 1) := by decide +kernel
set_option maxRecDepth 20000 in
theorem ggX1_isDamp_X6_isHouse : GoodIn wsX1_isDamp wsX6_isHouse := goodIn_r _ [4] (by decide +kernel) (by decide +kernel)
set_option maxRecDepth 20000 in
theorem gX1_isDamp_X6_isHouse_n65 : GoodIn wsX1_isDamp (wsX6_isHouse) := ggX1_isDamp_X6_isHouse
theorem dX1_isDamp_0 : decode cX1_isDamp 0 = .ok (.iload_n 1, 1) := by decide +kernel
theorem dX1_isDamp_1 : decode cX1_isDamp 1 = .ok (.invokestatic 65, 3) := by decide +kernel
theorem dX1_isDamp_4 : decode cX1_isDamp 4 = .ok (.ifCond .eq 17, 3) := by decide +kernel
theorem dX1_isDamp_7 : decode cX1_isDamp 7 = .ok (.aload_n 0, 1) := by decide +kernel
theorem dX1_isDamp_8 : decode cX1_isDamp 8 = .ok (.getfield 18, 3) := by decide +kernel
theorem dX1_isDamp_11 : decode cX1_isDamp 11 = .ok (.iload_n 1, 1) := by decide +kernel
theorem dX1_isDamp_12 : decode cX1_isDamp 12 = .ok (.iaload, 1) := by decide +kernel
theorem dX1_isDamp_13 : decode cX1_isDamp 13 = .ok (.iconst 1, 1) := by decide +kernel
theorem dX1_isDamp_14 : decode cX1_isDamp 14 = .ok (.if_icmp .ne 7, 3) := by decide +kernel
theorem dX1_isDamp_17 : decode cX1_isDamp 17 = .ok (.iconst 1, 1) := by decide +kernel
theorem dX1_isDamp_18 : decode cX1_isDamp 18 = .ok (.goto 4, 3) := by decide +kernel
theorem dX1_isDamp_21 : decode cX1_isDamp 21 = .ok (.iconst 0, 1) := by decide +kernel
theorem dX1_isDamp_22 : decode cX1_isDamp 22 = .ok (.ireturn, 1) := by decide +kernel
set_option maxRecDepth 20000 in
theorem ggX1_beliefOf_X6_isHouse : GoodIn wsX1_beliefOf wsX6_isHouse := goodIn_r _ [4] (by decide +kernel) (by decide +kernel)
set_option maxRecDepth 20000 in
theorem gX1_beliefOf_X6_isHouse_n65 : GoodIn wsX1_beliefOf (wsX6_isHouse) := ggX1_beliefOf_X6_isHouse
theorem dX1_beliefOf_0 : decode cX1_beliefOf 0 = .ok (.iload_n 1, 1) := by decide +kernel
theorem dX1_beliefOf_1 : decode cX1_beliefOf 1 = .ok (.invokestatic 65, 3) := by decide +kernel
theorem dX1_beliefOf_4 : decode cX1_beliefOf 4 = .ok (.ifCond .eq 12, 3) := by decide +kernel
theorem dX1_beliefOf_7 : decode cX1_beliefOf 7 = .ok (.aload_n 0, 1) := by decide +kernel
theorem dX1_beliefOf_8 : decode cX1_beliefOf 8 = .ok (.getfield 21, 3) := by decide +kernel
theorem dX1_beliefOf_11 : decode cX1_beliefOf 11 = .ok (.iload_n 1, 1) := by decide +kernel
theorem dX1_beliefOf_12 : decode cX1_beliefOf 12 = .ok (.iaload, 1) := by decide +kernel
theorem dX1_beliefOf_13 : decode cX1_beliefOf 13 = .ok (.goto 5, 3) := by decide +kernel
theorem dX1_beliefOf_16 : decode cX1_beliefOf 16 = .ok (.bipush (-6), 2) := by decide +kernel
theorem dX1_beliefOf_18 : decode cX1_beliefOf 18 = .ok (.ireturn, 1) := by decide +kernel
set_option maxRecDepth 20000 in
theorem ggX1_furnish_X6_isHouse : GoodIn wsX1_furnish wsX6_isHouse := goodIn_r _ [5] (by decide +kernel) (by decide +kernel)
set_option maxRecDepth 20000 in
theorem gX1_furnish_X6_isHouse_n65 : GoodIn wsX1_furnish (wsX6_isHouse) := ggX1_furnish_X6_isHouse
theorem dX1_furnish_0 : decode cX1_furnish 0 = .ok (.iload_n 1, 1) := by decide +kernel
theorem dX1_furnish_1 : decode cX1_furnish 1 = .ok (.invokestatic 65, 3) := by decide +kernel
theorem dX1_furnish_4 : decode cX1_furnish 4 = .ok (.ifCond .eq 17, 3) := by decide +kernel
theorem dX1_furnish_7 : decode cX1_furnish 7 = .ok (.aload_n 0, 1) := by decide +kernel
theorem dX1_furnish_8 : decode cX1_furnish 8 = .ok (.getfield 15, 3) := by decide +kernel
theorem dX1_furnish_11 : decode cX1_furnish 11 = .ok (.iload_n 1, 1) := by decide +kernel
theorem dX1_furnish_12 : decode cX1_furnish 12 = .ok (.iload_n 2, 1) := by decide +kernel
theorem dX1_furnish_13 : decode cX1_furnish 13 = .ok (.iastore, 1) := by decide +kernel
theorem dX1_furnish_14 : decode cX1_furnish 14 = .ok (.aload_n 0, 1) := by decide +kernel
theorem dX1_furnish_15 : decode cX1_furnish 15 = .ok (.getfield 18, 3) := by decide +kernel
theorem dX1_furnish_18 : decode cX1_furnish 18 = .ok (.iload_n 1, 1) := by decide +kernel
theorem dX1_furnish_19 : decode cX1_furnish 19 = .ok (.iload_n 3, 1) := by decide +kernel
theorem dX1_furnish_20 : decode cX1_furnish 20 = .ok (.iastore, 1) := by decide +kernel
theorem dX1_furnish_21 : decode cX1_furnish 21 = .ok (.return_, 1) := by decide +kernel
set_option maxRecDepth 20000 in
theorem ggX1_convince_X6_isHouse : GoodIn wsX1_convince wsX6_isHouse := goodIn_r _ [4] (by decide +kernel) (by decide +kernel)
set_option maxRecDepth 20000 in
theorem gX1_convince_X6_isHouse_n65 : GoodIn wsX1_convince (wsX6_isHouse) := ggX1_convince_X6_isHouse
theorem dX1_convince_0 : decode cX1_convince 0 = .ok (.iload_n 1, 1) := by decide +kernel
theorem dX1_convince_1 : decode cX1_convince 1 = .ok (.invokestatic 65, 3) := by decide +kernel
theorem dX1_convince_4 : decode cX1_convince 4 = .ok (.ifCond .eq 10, 3) := by decide +kernel
theorem dX1_convince_7 : decode cX1_convince 7 = .ok (.aload_n 0, 1) := by decide +kernel
theorem dX1_convince_8 : decode cX1_convince 8 = .ok (.getfield 21, 3) := by decide +kernel
theorem dX1_convince_11 : decode cX1_convince 11 = .ok (.iload_n 1, 1) := by decide +kernel
theorem dX1_convince_12 : decode cX1_convince 12 = .ok (.iload_n 2, 1) := by decide +kernel
theorem dX1_convince_13 : decode cX1_convince 13 = .ok (.iastore, 1) := by decide +kernel
theorem dX1_convince_14 : decode cX1_convince 14 = .ok (.return_, 1) := by decide +kernel
set_option maxRecDepth 20000 in
theorem ggX1_houseFact_X1_beliefOf : GoodIn wsX1_houseFact wsX1_beliefOf := goodIn_r _ [5, 6, 7, 8, 9, 20, 21, 22, 23, 24, 25, 26, 27, 28, 29, 30, 31] (by decide +kernel) (by decide +kernel)
set_option maxRecDepth 20000 in
theorem gX1_houseFact_X1_beliefOf : GoodIn wsX1_houseFact (wsV RX1 68 RX1 yX1_beliefOf wsX1_beliefOf) := goodIn_app (goodIn_of _ (by decide +kernel)) ggX1_houseFact_X1_beliefOf
set_option maxRecDepth 20000 in
theorem ggX1_houseFact_X1_doubtOf : GoodIn wsX1_houseFact wsX1_doubtOf := goodIn_r _ [13, 14, 7, 8, 9, 20, 21, 22, 23, 24, 25, 26, 27, 28, 29, 30, 31] (by decide +kernel) (by decide +kernel)
set_option maxRecDepth 20000 in
theorem gX1_houseFact_X1_doubtOf : GoodIn wsX1_houseFact (wsV RX1 72 RX1 yX1_doubtOf wsX1_doubtOf) := goodIn_app (goodIn_of _ (by decide +kernel)) ggX1_houseFact_X1_doubtOf
set_option maxRecDepth 20000 in
theorem ggX1_houseFact_X1_isDamp : GoodIn wsX1_houseFact wsX1_isDamp := goodIn_r _ [18, 19, 7, 8, 9, 20, 21, 22, 23, 24, 25, 26, 27, 28, 29, 30, 31] (by decide +kernel) (by decide +kernel)
set_option maxRecDepth 20000 in
theorem gX1_houseFact_X1_isDamp : GoodIn wsX1_houseFact (wsV RX1 75 RX1 yX1_isDamp wsX1_isDamp) := goodIn_app (goodIn_of _ (by decide +kernel)) ggX1_houseFact_X1_isDamp
theorem dX1_houseFact_0 : decode cX1_houseFact 0 = .ok (.iload_n 2, 1) := by decide +kernel
theorem dX1_houseFact_1 : decode cX1_houseFact 1 = .ok (.lookupswitch 39 #[(0, 27), (1, 33)], 27) := by decide +kernel
theorem dX1_houseFact_28 : decode cX1_houseFact 28 = .ok (.aload_n 0, 1) := by decide +kernel
theorem dX1_houseFact_29 : decode cX1_houseFact 29 = .ok (.iload_n 1, 1) := by decide +kernel
theorem dX1_houseFact_30 : decode cX1_houseFact 30 = .ok (.invokevirtual 68, 3) := by decide +kernel
theorem dX1_houseFact_33 : decode cX1_houseFact 33 = .ok (.ireturn, 1) := by decide +kernel
theorem dX1_houseFact_34 : decode cX1_houseFact 34 = .ok (.aload_n 0, 1) := by decide +kernel
theorem dX1_houseFact_35 : decode cX1_houseFact 35 = .ok (.iload_n 1, 1) := by decide +kernel
theorem dX1_houseFact_36 : decode cX1_houseFact 36 = .ok (.invokevirtual 72, 3) := by decide +kernel
theorem dX1_houseFact_39 : decode cX1_houseFact 39 = .ok (.ireturn, 1) := by decide +kernel
theorem dX1_houseFact_40 : decode cX1_houseFact 40 = .ok (.aload_n 0, 1) := by decide +kernel
theorem dX1_houseFact_41 : decode cX1_houseFact 41 = .ok (.iload_n 1, 1) := by decide +kernel
theorem dX1_houseFact_42 : decode cX1_houseFact 42 = .ok (.invokevirtual 75, 3) := by decide +kernel
theorem dX1_houseFact_45 : decode cX1_houseFact 45 = .ok (.ifCond .eq 7, 3) := by decide +kernel
theorem dX1_houseFact_48 : decode cX1_houseFact 48 = .ok (.iconst 1, 1) := by decide +kernel
theorem dX1_houseFact_49 : decode cX1_houseFact 49 = .ok (.goto 4, 3) := by decide +kernel
theorem dX1_houseFact_52 : decode cX1_houseFact 52 = .ok (.iconst 0, 1) := by decide +kernel
theorem dX1_houseFact_53 : decode cX1_houseFact 53 = .ok (.ireturn, 1) := by decide +kernel
theorem dX1_panFact_0 : decode cX1_panFact 0 = .ok (.iload_n 1, 1) := by decide +kernel
theorem dX1_panFact_1 : decode cX1_panFact 1 = .ok (.tableswitch 42 0 2 #[27, 32, 37], 27) := by decide +kernel
theorem dX1_panFact_28 : decode cX1_panFact 28 = .ok (.aload_n 0, 1) := by decide +kernel
theorem dX1_panFact_29 : decode cX1_panFact 29 = .ok (.getfield 33, 3) := by decide +kernel
theorem dX1_panFact_32 : decode cX1_panFact 32 = .ok (.ireturn, 1) := by decide +kernel
theorem dX1_panFact_33 : decode cX1_panFact 33 = .ok (.aload_n 0, 1) := by decide +kernel
theorem dX1_panFact_34 : decode cX1_panFact 34 = .ok (.getfield 52, 3) := by decide +kernel
theorem dX1_panFact_37 : decode cX1_panFact 37 = .ok (.ireturn, 1) := by decide +kernel
theorem dX1_panFact_38 : decode cX1_panFact 38 = .ok (.aload_n 0, 1) := by decide +kernel
theorem dX1_panFact_39 : decode cX1_panFact 39 = .ok (.getfield 55, 3) := by decide +kernel
theorem dX1_panFact_42 : decode cX1_panFact 42 = .ok (.ireturn, 1) := by decide +kernel
theorem dX1_panFact_43 : decode cX1_panFact 43 = .ok (.aload_n 0, 1) := by decide +kernel
theorem dX1_panFact_44 : decode cX1_panFact 44 = .ok (.getfield 58, 3) := by decide +kernel
theorem dX1_panFact_47 : decode cX1_panFact 47 = .ok (.ireturn, 1) := by decide +kernel
theorem dX1_believersOf_0 : decode cX1_believersOf 0 = .ok (.iconst 0, 1) := by decide +kernel
theorem dX1_believersOf_1 : decode cX1_believersOf 1 = .ok (.istore_n 2, 1) := by decide +kernel
theorem dX1_believersOf_2 : decode cX1_believersOf 2 = .ok (.iconst 0, 1) := by decide +kernel
theorem dX1_believersOf_3 : decode cX1_believersOf 3 = .ok (.istore_n 3, 1) := by decide +kernel
theorem dX1_believersOf_4 : decode cX1_believersOf 4 = .ok (.iload_n 3, 1) := by decide +kernel
theorem dX1_believersOf_5 : decode cX1_believersOf 5 = .ok (.bipush 10, 2) := by decide +kernel
theorem dX1_believersOf_7 : decode cX1_believersOf 7 = .ok (.if_icmp .ge 25, 3) := by decide +kernel
theorem dX1_believersOf_10 : decode cX1_believersOf 10 = .ok (.aload_n 0, 1) := by decide +kernel
theorem dX1_believersOf_11 : decode cX1_believersOf 11 = .ok (.getfield 21, 3) := by decide +kernel
theorem dX1_believersOf_14 : decode cX1_believersOf 14 = .ok (.iload_n 3, 1) := by decide +kernel
theorem dX1_believersOf_15 : decode cX1_believersOf 15 = .ok (.iaload, 1) := by decide +kernel
theorem dX1_believersOf_16 : decode cX1_believersOf 16 = .ok (.iload_n 1, 1) := by decide +kernel
theorem dX1_believersOf_17 : decode cX1_believersOf 17 = .ok (.if_icmp .ne 9, 3) := by decide +kernel
theorem dX1_believersOf_20 : decode cX1_believersOf 20 = .ok (.iload_n 2, 1) := by decide +kernel
theorem dX1_believersOf_21 : decode cX1_believersOf 21 = .ok (.iconst 1, 1) := by decide +kernel
theorem dX1_believersOf_22 : decode cX1_believersOf 22 = .ok (.iload_n 3, 1) := by decide +kernel
theorem dX1_believersOf_23 : decode cX1_believersOf 23 = .ok (.ishl, 1) := by decide +kernel
theorem dX1_believersOf_24 : decode cX1_believersOf 24 = .ok (.ior, 1) := by decide +kernel
theorem dX1_believersOf_25 : decode cX1_believersOf 25 = .ok (.istore_n 2, 1) := by decide +kernel
theorem dX1_believersOf_26 : decode cX1_believersOf 26 = .ok (.iinc 3 1, 3) := by decide +kernel
theorem dX1_believersOf_29 : decode cX1_believersOf 29 = .ok (.goto (-25), 3) := by decide +kernel
theorem dX1_believersOf_32 : decode cX1_believersOf 32 = .ok (.iload_n 2, 1) := by decide +kernel
theorem dX1_believersOf_33 : decode cX1_believersOf 33 = .ok (.ireturn, 1) := by decide +kernel
set_option maxRecDepth 20000 in
theorem ggX1_believers_X1_believersOf : GoodIn wsX1_believers wsX1_believersOf := goodIn_r _ [5, 6, 14, 15, 16, 17, 18, 19, 20, 21, 22, 23, 24, 25] (by decide +kernel) (by decide +kernel)
set_option maxRecDepth 20000 in
theorem gX1_believers_X1_believersOf : GoodIn wsX1_believers (wsV RX1 78 RX1 yX1_believersOf wsX1_believersOf) := goodIn_app (goodIn_of _ (by decide +kernel)) ggX1_believers_X1_believersOf
set_option maxRecDepth 20000 in
theorem ggX1_believers_J6_bitCount_0f7a4 : GoodIn wsX1_believers wsJ6_bitCount_0f7a4 := goodIn_r _ [10, 11, 12, 13] (by decide +kernel) (by decide +kernel)
set_option maxRecDepth 20000 in
theorem gX1_believers_J6_bitCount_0f7a4 : GoodIn wsX1_believers (va_wsS RX1 81 yJ6_bitCount_0f7a4 wsJ6_bitCount_0f7a4) := goodIn_app (goodIn_of _ (by decide +kernel)) ggX1_believers_J6_bitCount_0f7a4
theorem dX1_believers_0 : decode cX1_believers 0 = .ok (.bipush 10, 2) := by decide +kernel
theorem dX1_believers_2 : decode cX1_believers 2 = .ok (.aload_n 0, 1) := by decide +kernel
theorem dX1_believers_3 : decode cX1_believers 3 = .ok (.bipush (-6), 2) := by decide +kernel
theorem dX1_believers_5 : decode cX1_believers 5 = .ok (.invokevirtual 78, 3) := by decide +kernel
theorem dX1_believers_8 : decode cX1_believers 8 = .ok (.invokestatic 81, 3) := by decide +kernel
theorem dX1_believers_11 : decode cX1_believers 11 = .ok (.isub, 1) := by decide +kernel
theorem dX1_believers_12 : decode cX1_believers 12 = .ok (.ireturn, 1) := by decide +kernel
set_option maxRecDepth 20000 in
theorem ggX1_talesBelieved_X1_believersOf : GoodIn wsX1_talesBelieved wsX1_believersOf := goodIn_r _ [5, 6, 7, 8, 9, 10, 11, 12, 13, 14, 15, 16, 17, 18] (by decide +kernel) (by decide +kernel)
set_option maxRecDepth 20000 in
theorem gX1_talesBelieved_X1_believersOf : GoodIn wsX1_talesBelieved (wsV RX1 78 RX1 yX1_believersOf wsX1_believersOf) := goodIn_app (goodIn_of _ (by decide +kernel)) ggX1_talesBelieved_X1_believersOf
theorem dX1_talesBelieved_0 : decode cX1_talesBelieved 0 = .ok (.iconst 0, 1) := by decide +kernel
theorem dX1_talesBelieved_1 : decode cX1_talesBelieved 1 = .ok (.istore_n 1, 1) := by decide +kernel
theorem dX1_talesBelieved_2 : decode cX1_talesBelieved 2 = .ok (.iconst 0, 1) := by decide +kernel
theorem dX1_talesBelieved_3 : decode cX1_talesBelieved 3 = .ok (.istore_n 2, 1) := by decide +kernel
theorem dX1_talesBelieved_4 : decode cX1_talesBelieved 4 = .ok (.iload_n 2, 1) := by decide +kernel
theorem dX1_talesBelieved_5 : decode cX1_talesBelieved 5 = .ok (.bipush 10, 2) := by decide +kernel
theorem dX1_talesBelieved_7 : decode cX1_talesBelieved 7 = .ok (.if_icmp .ge 20, 3) := by decide +kernel
theorem dX1_talesBelieved_10 : decode cX1_talesBelieved 10 = .ok (.aload_n 0, 1) := by decide +kernel
theorem dX1_talesBelieved_11 : decode cX1_talesBelieved 11 = .ok (.iload_n 2, 1) := by decide +kernel
theorem dX1_talesBelieved_12 : decode cX1_talesBelieved 12 = .ok (.invokevirtual 78, 3) := by decide +kernel
theorem dX1_talesBelieved_15 : decode cX1_talesBelieved 15 = .ok (.ifCond .eq 6, 3) := by decide +kernel
theorem dX1_talesBelieved_18 : decode cX1_talesBelieved 18 = .ok (.iinc 1 1, 3) := by decide +kernel
theorem dX1_talesBelieved_21 : decode cX1_talesBelieved 21 = .ok (.iinc 2 1, 3) := by decide +kernel
theorem dX1_talesBelieved_24 : decode cX1_talesBelieved 24 = .ok (.goto (-20), 3) := by decide +kernel
theorem dX1_talesBelieved_27 : decode cX1_talesBelieved 27 = .ok (.iload_n 1, 1) := by decide +kernel
theorem dX1_talesBelieved_28 : decode cX1_talesBelieved 28 = .ok (.ireturn, 1) := by decide +kernel
theorem dX1_allDoubt_0 : decode cX1_allDoubt 0 = .ok (.iconst 0, 1) := by decide +kernel
theorem dX1_allDoubt_1 : decode cX1_allDoubt 1 = .ok (.istore_n 1, 1) := by decide +kernel
theorem dX1_allDoubt_2 : decode cX1_allDoubt 2 = .ok (.iconst 0, 1) := by decide +kernel
theorem dX1_allDoubt_3 : decode cX1_allDoubt 3 = .ok (.istore_n 2, 1) := by decide +kernel
theorem dX1_allDoubt_4 : decode cX1_allDoubt 4 = .ok (.iload_n 2, 1) := by decide +kernel
theorem dX1_allDoubt_5 : decode cX1_allDoubt 5 = .ok (.bipush 10, 2) := by decide +kernel
theorem dX1_allDoubt_7 : decode cX1_allDoubt 7 = .ok (.if_icmp .ge 18, 3) := by decide +kernel
theorem dX1_allDoubt_10 : decode cX1_allDoubt 10 = .ok (.iload_n 1, 1) := by decide +kernel
theorem dX1_allDoubt_11 : decode cX1_allDoubt 11 = .ok (.aload_n 0, 1) := by decide +kernel
theorem dX1_allDoubt_12 : decode cX1_allDoubt 12 = .ok (.getfield 15, 3) := by decide +kernel
theorem dX1_allDoubt_15 : decode cX1_allDoubt 15 = .ok (.iload_n 2, 1) := by decide +kernel
theorem dX1_allDoubt_16 : decode cX1_allDoubt 16 = .ok (.iaload, 1) := by decide +kernel
theorem dX1_allDoubt_17 : decode cX1_allDoubt 17 = .ok (.iadd, 1) := by decide +kernel
theorem dX1_allDoubt_18 : decode cX1_allDoubt 18 = .ok (.istore_n 1, 1) := by decide +kernel
theorem dX1_allDoubt_19 : decode cX1_allDoubt 19 = .ok (.iinc 2 1, 3) := by decide +kernel
theorem dX1_allDoubt_22 : decode cX1_allDoubt 22 = .ok (.goto (-18), 3) := by decide +kernel
theorem dX1_allDoubt_25 : decode cX1_allDoubt 25 = .ok (.iload_n 1, 1) := by decide +kernel
theorem dX1_allDoubt_26 : decode cX1_allDoubt 26 = .ok (.ireturn, 1) := by decide +kernel
set_option maxRecDepth 20000 in
theorem ggX1_fadesInto_X6_isTale : GoodIn wsX1_fadesInto wsX6_isTale := goodIn_r _ [4] (by decide +kernel) (by decide +kernel)
set_option maxRecDepth 20000 in
theorem gX1_fadesInto_X6_isTale_n86 : GoodIn wsX1_fadesInto (wsX6_isTale) := ggX1_fadesInto_X6_isTale
theorem dX1_fadesInto_0 : decode cX1_fadesInto 0 = .ok (.iload_n 1, 1) := by decide +kernel
theorem dX1_fadesInto_1 : decode cX1_fadesInto 1 = .ok (.invokestatic 86, 3) := by decide +kernel
theorem dX1_fadesInto_4 : decode cX1_fadesInto 4 = .ok (.ifCond .eq 12, 3) := by decide +kernel
theorem dX1_fadesInto_7 : decode cX1_fadesInto 7 = .ok (.aload_n 0, 1) := by decide +kernel
theorem dX1_fadesInto_8 : decode cX1_fadesInto 8 = .ok (.getfield 24, 3) := by decide +kernel
theorem dX1_fadesInto_11 : decode cX1_fadesInto 11 = .ok (.iload_n 1, 1) := by decide +kernel
theorem dX1_fadesInto_12 : decode cX1_fadesInto 12 = .ok (.iaload, 1) := by decide +kernel
theorem dX1_fadesInto_13 : decode cX1_fadesInto 13 = .ok (.goto 5, 3) := by decide +kernel
theorem dX1_fadesInto_16 : decode cX1_fadesInto 16 = .ok (.bipush (-6), 2) := by decide +kernel
theorem dX1_fadesInto_18 : decode cX1_fadesInto 18 = .ok (.ireturn, 1) := by decide +kernel
set_option maxRecDepth 20000 in
theorem ggX1_letFade_X6_isTale : GoodIn wsX1_letFade wsX6_isTale := goodIn_r _ [4] (by decide +kernel) (by decide +kernel)
set_option maxRecDepth 20000 in
theorem gX1_letFade_X6_isTale_n86 : GoodIn wsX1_letFade (wsX6_isTale) := ggX1_letFade_X6_isTale
theorem dX1_letFade_0 : decode cX1_letFade 0 = .ok (.iload_n 1, 1) := by decide +kernel
theorem dX1_letFade_1 : decode cX1_letFade 1 = .ok (.invokestatic 86, 3) := by decide +kernel
theorem dX1_letFade_4 : decode cX1_letFade 4 = .ok (.ifCond .eq 10, 3) := by decide +kernel
theorem dX1_letFade_7 : decode cX1_letFade 7 = .ok (.aload_n 0, 1) := by decide +kernel
theorem dX1_letFade_8 : decode cX1_letFade 8 = .ok (.getfield 24, 3) := by decide +kernel
theorem dX1_letFade_11 : decode cX1_letFade 11 = .ok (.iload_n 1, 1) := by decide +kernel
theorem dX1_letFade_12 : decode cX1_letFade 12 = .ok (.iload_n 2, 1) := by decide +kernel
theorem dX1_letFade_13 : decode cX1_letFade 13 = .ok (.iastore, 1) := by decide +kernel
theorem dX1_letFade_14 : decode cX1_letFade 14 = .ok (.return_, 1) := by decide +kernel
set_option maxRecDepth 20000 in
theorem ggX1_behindStirs_X1_fadesInto : GoodIn wsX1_behindStirs wsX1_fadesInto := goodIn_r _ [5, 6, 7, 8, 9, 10, 11, 12, 13, 14, 15, 16, 17, 18, 19, 20, 21] (by decide +kernel) (by decide +kernel)
set_option maxRecDepth 20000 in
theorem gX1_behindStirs_X1_fadesInto : GoodIn wsX1_behindStirs (wsV RX1 89 RX1 yX1_fadesInto wsX1_fadesInto) := goodIn_app (goodIn_of _ (by decide +kernel)) ggX1_behindStirs_X1_fadesInto
theorem dX1_behindStirs_0 : decode cX1_behindStirs 0 = .ok (.iload_n 1, 1) := by decide +kernel
theorem dX1_behindStirs_1 : decode cX1_behindStirs 1 = .ok (.istore_n 3, 1) := by decide +kernel
theorem dX1_behindStirs_2 : decode cX1_behindStirs 2 = .ok (.iconst 0, 1) := by decide +kernel
theorem dX1_behindStirs_3 : decode cX1_behindStirs 3 = .ok (.istore 4, 2) := by decide +kernel
theorem dX1_behindStirs_5 : decode cX1_behindStirs 5 = .ok (.iload 4, 2) := by decide +kernel
theorem dX1_behindStirs_7 : decode cX1_behindStirs 7 = .ok (.iload_n 2, 1) := by decide +kernel
theorem dX1_behindStirs_8 : decode cX1_behindStirs 8 = .ok (.if_icmp .ge 15, 3) := by decide +kernel
theorem dX1_behindStirs_11 : decode cX1_behindStirs 11 = .ok (.aload_n 0, 1) := by decide +kernel
theorem dX1_behindStirs_12 : decode cX1_behindStirs 12 = .ok (.iload_n 3, 1) := by decide +kernel
theorem dX1_behindStirs_13 : decode cX1_behindStirs 13 = .ok (.invokevirtual 89, 3) := by decide +kernel
theorem dX1_behindStirs_16 : decode cX1_behindStirs 16 = .ok (.istore_n 3, 1) := by decide +kernel
theorem dX1_behindStirs_17 : decode cX1_behindStirs 17 = .ok (.iinc 4 1, 3) := by decide +kernel
theorem dX1_behindStirs_20 : decode cX1_behindStirs 20 = .ok (.goto (-15), 3) := by decide +kernel
theorem dX1_behindStirs_23 : decode cX1_behindStirs 23 = .ok (.iload_n 3, 1) := by decide +kernel
theorem dX1_behindStirs_24 : decode cX1_behindStirs 24 = .ok (.ireturn, 1) := by decide +kernel
set_option maxRecDepth 20000 in
theorem ggX1_stirsToRing_X6_isTale : GoodIn wsX1_stirsToRing wsX6_isTale := goodIn_r _ [3] (by decide +kernel) (by decide +kernel)
set_option maxRecDepth 20000 in
theorem gX1_stirsToRing_X6_isTale_n86 : GoodIn wsX1_stirsToRing (wsX6_isTale) := ggX1_stirsToRing_X6_isTale
set_option maxRecDepth 20000 in
theorem ggX1_stirsToRing_X6_isIn : GoodIn wsX1_stirsToRing wsX6_isIn := goodIn_r _ [5] (by decide +kernel) (by decide +kernel)
set_option maxRecDepth 20000 in
theorem gX1_stirsToRing_X6_isIn_n92 : GoodIn wsX1_stirsToRing (wsX6_isIn) := ggX1_stirsToRing_X6_isIn
set_option maxRecDepth 20000 in
theorem ggX1_stirsToRing_X1_fadesInto : GoodIn wsX1_stirsToRing wsX1_fadesInto := goodIn_r _ [10, 11, 1, 2, 3, 12, 13, 14, 15, 16, 17, 18, 19, 20, 21, 22, 23] (by decide +kernel) (by decide +kernel)
set_option maxRecDepth 20000 in
theorem gX1_stirsToRing_X1_fadesInto : GoodIn wsX1_stirsToRing (wsV RX1 89 RX1 yX1_fadesInto wsX1_fadesInto) := goodIn_app (goodIn_of _ (by decide +kernel)) ggX1_stirsToRing_X1_fadesInto
theorem dX1_stirsToRing_0 : decode cX1_stirsToRing 0 = .ok (.iconst 0, 1) := by decide +kernel
theorem dX1_stirsToRing_1 : decode cX1_stirsToRing 1 = .ok (.istore_n 2, 1) := by decide +kernel
theorem dX1_stirsToRing_2 : decode cX1_stirsToRing 2 = .ok (.iload_n 1, 1) := by decide +kernel
theorem dX1_stirsToRing_3 : decode cX1_stirsToRing 3 = .ok (.istore_n 3, 1) := by decide +kernel
theorem dX1_stirsToRing_4 : decode cX1_stirsToRing 4 = .ok (.iconst 0, 1) := by decide +kernel
theorem dX1_stirsToRing_5 : decode cX1_stirsToRing 5 = .ok (.istore 4, 2) := by decide +kernel
theorem dX1_stirsToRing_7 : decode cX1_stirsToRing 7 = .ok (.iload 4, 2) := by decide +kernel
theorem dX1_stirsToRing_9 : decode cX1_stirsToRing 9 = .ok (.bipush 10, 2) := by decide +kernel
theorem dX1_stirsToRing_11 : decode cX1_stirsToRing 11 = .ok (.if_icmp .gt 39, 3) := by decide +kernel
theorem dX1_stirsToRing_14 : decode cX1_stirsToRing 14 = .ok (.iload_n 3, 1) := by decide +kernel
theorem dX1_stirsToRing_15 : decode cX1_stirsToRing 15 = .ok (.invokestatic 86, 3) := by decide +kernel
theorem dX1_stirsToRing_18 : decode cX1_stirsToRing 18 = .ok (.ifCond .eq 11, 3) := by decide +kernel
theorem dX1_stirsToRing_21 : decode cX1_stirsToRing 21 = .ok (.iload_n 3, 1) := by decide +kernel
theorem dX1_stirsToRing_22 : decode cX1_stirsToRing 22 = .ok (.iload_n 2, 1) := by decide +kernel
theorem dX1_stirsToRing_23 : decode cX1_stirsToRing 23 = .ok (.invokestatic 92, 3) := by decide +kernel
theorem dX1_stirsToRing_26 : decode cX1_stirsToRing 26 = .ok (.ifCond .eq 6, 3) := by decide +kernel
theorem dX1_stirsToRing_29 : decode cX1_stirsToRing 29 = .ok (.iload 4, 2) := by decide +kernel
theorem dX1_stirsToRing_31 : decode cX1_stirsToRing 31 = .ok (.ireturn, 1) := by decide +kernel
theorem dX1_stirsToRing_32 : decode cX1_stirsToRing 32 = .ok (.iload_n 2, 1) := by decide +kernel
theorem dX1_stirsToRing_33 : decode cX1_stirsToRing 33 = .ok (.iconst 1, 1) := by decide +kernel
theorem dX1_stirsToRing_34 : decode cX1_stirsToRing 34 = .ok (.iload_n 3, 1) := by decide +kernel
theorem dX1_stirsToRing_35 : decode cX1_stirsToRing 35 = .ok (.ishl, 1) := by decide +kernel
theorem dX1_stirsToRing_36 : decode cX1_stirsToRing 36 = .ok (.ior, 1) := by decide +kernel
theorem dX1_stirsToRing_37 : decode cX1_stirsToRing 37 = .ok (.istore_n 2, 1) := by decide +kernel
theorem dX1_stirsToRing_38 : decode cX1_stirsToRing 38 = .ok (.aload_n 0, 1) := by decide +kernel
theorem dX1_stirsToRing_39 : decode cX1_stirsToRing 39 = .ok (.iload_n 3, 1) := by decide +kernel
theorem dX1_stirsToRing_40 : decode cX1_stirsToRing 40 = .ok (.invokevirtual 89, 3) := by decide +kernel
theorem dX1_stirsToRing_43 : decode cX1_stirsToRing 43 = .ok (.istore_n 3, 1) := by decide +kernel
theorem dX1_stirsToRing_44 : decode cX1_stirsToRing 44 = .ok (.iinc 4 1, 3) := by decide +kernel
theorem dX1_stirsToRing_47 : decode cX1_stirsToRing 47 = .ok (.goto (-40), 3) := by decide +kernel
theorem dX1_stirsToRing_50 : decode cX1_stirsToRing 50 = .ok (.bipush 10, 2) := by decide +kernel
theorem dX1_stirsToRing_52 : decode cX1_stirsToRing 52 = .ok (.ireturn, 1) := by decide +kernel
set_option maxRecDepth 20000 in
theorem ggX1_stirsOfRing_X1_stirsToRing : GoodIn wsX1_stirsOfRing wsX1_stirsToRing := goodIn_r _ [5, 6, 7, 8, 9, 10, 11, 12, 13, 4, 14, 15, 20, 21, 22, 23, 24, 25, 26, 27, 28, 29, 30, 31] (by decide +kernel) (by decide +kernel)
set_option maxRecDepth 20000 in
theorem gX1_stirsOfRing_X1_stirsToRing : GoodIn wsX1_stirsOfRing (wsV RX1 96 RX1 yX1_stirsToRing wsX1_stirsToRing) := goodIn_app (goodIn_of _ (by decide +kernel)) ggX1_stirsOfRing_X1_stirsToRing
set_option maxRecDepth 20000 in
theorem ggX1_stirsOfRing_X1_behindStirs : GoodIn wsX1_stirsOfRing wsX1_behindStirs := goodIn_r _ [19, 11, 12, 13, 4, 14, 15, 6, 7, 8, 20, 21, 22, 23, 24, 25, 26, 27, 28, 29, 30, 31] (by decide +kernel) (by decide +kernel)
set_option maxRecDepth 20000 in
theorem gX1_stirsOfRing_X1_behindStirs : GoodIn wsX1_stirsOfRing (wsV RX1 99 RX1 yX1_behindStirs wsX1_behindStirs) := goodIn_app (goodIn_of _ (by decide +kernel)) ggX1_stirsOfRing_X1_behindStirs
theorem dX1_stirsOfRing_0 : decode cX1_stirsOfRing 0 = .ok (.aload_n 0, 1) := by decide +kernel
theorem dX1_stirsOfRing_1 : decode cX1_stirsOfRing 1 = .ok (.iload_n 1, 1) := by decide +kernel
theorem dX1_stirsOfRing_2 : decode cX1_stirsOfRing 2 = .ok (.invokevirtual 96, 3) := by decide +kernel
theorem dX1_stirsOfRing_5 : decode cX1_stirsOfRing 5 = .ok (.istore_n 2, 1) := by decide +kernel
theorem dX1_stirsOfRing_6 : decode cX1_stirsOfRing 6 = .ok (.aload_n 0, 1) := by decide +kernel
theorem dX1_stirsOfRing_7 : decode cX1_stirsOfRing 7 = .ok (.iload_n 1, 1) := by decide +kernel
theorem dX1_stirsOfRing_8 : decode cX1_stirsOfRing 8 = .ok (.iload_n 2, 1) := by decide +kernel
theorem dX1_stirsOfRing_9 : decode cX1_stirsOfRing 9 = .ok (.invokevirtual 99, 3) := by decide +kernel
theorem dX1_stirsOfRing_12 : decode cX1_stirsOfRing 12 = .ok (.istore_n 3, 1) := by decide +kernel
theorem dX1_stirsOfRing_13 : decode cX1_stirsOfRing 13 = .ok (.iconst 0, 1) := by decide +kernel
theorem dX1_stirsOfRing_14 : decode cX1_stirsOfRing 14 = .ok (.istore 4, 2) := by decide +kernel
theorem dX1_stirsOfRing_16 : decode cX1_stirsOfRing 16 = .ok (.iload 4, 2) := by decide +kernel
theorem dX1_stirsOfRing_18 : decode cX1_stirsOfRing 18 = .ok (.iload_n 2, 1) := by decide +kernel
theorem dX1_stirsOfRing_19 : decode cX1_stirsOfRing 19 = .ok (.if_icmp .ge 25, 3) := by decide +kernel
theorem dX1_stirsOfRing_22 : decode cX1_stirsOfRing 22 = .ok (.aload_n 0, 1) := by decide +kernel
theorem dX1_stirsOfRing_23 : decode cX1_stirsOfRing 23 = .ok (.iload_n 1, 1) := by decide +kernel
theorem dX1_stirsOfRing_24 : decode cX1_stirsOfRing 24 = .ok (.iload 4, 2) := by decide +kernel
theorem dX1_stirsOfRing_26 : decode cX1_stirsOfRing 26 = .ok (.invokevirtual 99, 3) := by decide +kernel
theorem dX1_stirsOfRing_29 : decode cX1_stirsOfRing 29 = .ok (.iload_n 3, 1) := by decide +kernel
theorem dX1_stirsOfRing_30 : decode cX1_stirsOfRing 30 = .ok (.if_icmp .ne 8, 3) := by decide +kernel
theorem dX1_stirsOfRing_33 : decode cX1_stirsOfRing 33 = .ok (.iload_n 2, 1) := by decide +kernel
theorem dX1_stirsOfRing_34 : decode cX1_stirsOfRing 34 = .ok (.iload 4, 2) := by decide +kernel
theorem dX1_stirsOfRing_36 : decode cX1_stirsOfRing 36 = .ok (.isub, 1) := by decide +kernel
theorem dX1_stirsOfRing_37 : decode cX1_stirsOfRing 37 = .ok (.ireturn, 1) := by decide +kernel
theorem dX1_stirsOfRing_38 : decode cX1_stirsOfRing 38 = .ok (.iinc 4 1, 3) := by decide +kernel
theorem dX1_stirsOfRing_41 : decode cX1_stirsOfRing 41 = .ok (.goto (-25), 3) := by decide +kernel
theorem dX1_stirsOfRing_44 : decode cX1_stirsOfRing 44 = .ok (.iload_n 2, 1) := by decide +kernel
theorem dX1_stirsOfRing_45 : decode cX1_stirsOfRing 45 = .ok (.ireturn, 1) := by decide +kernel
theorem dX1_sightCount_0 : decode cX1_sightCount 0 = .ok (.aload_n 0, 1) := by decide +kernel
theorem dX1_sightCount_1 : decode cX1_sightCount 1 = .ok (.getfield 49, 3) := by decide +kernel
theorem dX1_sightCount_4 : decode cX1_sightCount 4 = .ok (.ireturn, 1) := by decide +kernel
set_option maxRecDepth 20000 in
theorem ggX1_addSight_X6_within : GoodIn wsX1_addSight wsX6_within := goodIn_r _ [6] (by decide +kernel) (by decide +kernel)
set_option maxRecDepth 20000 in
theorem gX1_addSight_X6_within_n103 : GoodIn wsX1_addSight (wsX6_within) := ggX1_addSight_X6_within
theorem dX1_addSight_0 : decode cX1_addSight 0 = .ok (.aload_n 0, 1) := by decide +kernel
theorem dX1_addSight_1 : decode cX1_addSight 1 = .ok (.getfield 49, 3) := by decide +kernel
theorem dX1_addSight_4 : decode cX1_addSight 4 = .ok (.iconst 0, 1) := by decide +kernel
theorem dX1_addSight_5 : decode cX1_addSight 5 = .ok (.bipush 7, 2) := by decide +kernel
theorem dX1_addSight_7 : decode cX1_addSight 7 = .ok (.invokestatic 103, 3) := by decide +kernel
theorem dX1_addSight_10 : decode cX1_addSight 10 = .ok (.ifCond .ne 5, 3) := by decide +kernel
theorem dX1_addSight_13 : decode cX1_addSight 13 = .ok (.iconst 0, 1) := by decide +kernel
theorem dX1_addSight_14 : decode cX1_addSight 14 = .ok (.ireturn, 1) := by decide +kernel
theorem dX1_addSight_15 : decode cX1_addSight 15 = .ok (.aload_n 0, 1) := by decide +kernel
theorem dX1_addSight_16 : decode cX1_addSight 16 = .ok (.getfield 27, 3) := by decide +kernel
theorem dX1_addSight_19 : decode cX1_addSight 19 = .ok (.aload_n 0, 1) := by decide +kernel
theorem dX1_addSight_20 : decode cX1_addSight 20 = .ok (.getfield 49, 3) := by decide +kernel
theorem dX1_addSight_23 : decode cX1_addSight 23 = .ok (.iload_n 1, 1) := by decide +kernel
theorem dX1_addSight_24 : decode cX1_addSight 24 = .ok (.iastore, 1) := by decide +kernel
theorem dX1_addSight_25 : decode cX1_addSight 25 = .ok (.aload_n 0, 1) := by decide +kernel
theorem dX1_addSight_26 : decode cX1_addSight 26 = .ok (.getfield 30, 3) := by decide +kernel
theorem dX1_addSight_29 : decode cX1_addSight 29 = .ok (.aload_n 0, 1) := by decide +kernel
theorem dX1_addSight_30 : decode cX1_addSight 30 = .ok (.getfield 49, 3) := by decide +kernel
theorem dX1_addSight_33 : decode cX1_addSight 33 = .ok (.iload_n 2, 1) := by decide +kernel
theorem dX1_addSight_34 : decode cX1_addSight 34 = .ok (.iastore, 1) := by decide +kernel
theorem dX1_addSight_35 : decode cX1_addSight 35 = .ok (.aload_n 0, 1) := by decide +kernel
theorem dX1_addSight_36 : decode cX1_addSight 36 = .ok (.dup, 1) := by decide +kernel
theorem dX1_addSight_37 : decode cX1_addSight 37 = .ok (.getfield 49, 3) := by decide +kernel
theorem dX1_addSight_40 : decode cX1_addSight 40 = .ok (.iconst 1, 1) := by decide +kernel
theorem dX1_addSight_41 : decode cX1_addSight 41 = .ok (.iadd, 1) := by decide +kernel
theorem dX1_addSight_42 : decode cX1_addSight 42 = .ok (.putfield 49, 3) := by decide +kernel
theorem dX1_addSight_45 : decode cX1_addSight 45 = .ok (.iconst 1, 1) := by decide +kernel
theorem dX1_addSight_46 : decode cX1_addSight 46 = .ok (.ireturn, 1) := by decide +kernel
theorem dX1_dropSights_0 : decode cX1_dropSights 0 = .ok (.aload_n 0, 1) := by decide +kernel
theorem dX1_dropSights_1 : decode cX1_dropSights 1 = .ok (.iconst 0, 1) := by decide +kernel
theorem dX1_dropSights_2 : decode cX1_dropSights 2 = .ok (.putfield 49, 3) := by decide +kernel
theorem dX1_dropSights_5 : decode cX1_dropSights 5 = .ok (.return_, 1) := by decide +kernel
set_option maxRecDepth 20000 in
theorem ggX1_sightBed_X6_within : GoodIn wsX1_sightBed wsX6_within := goodIn_r _ [4] (by decide +kernel) (by decide +kernel)
set_option maxRecDepth 20000 in
theorem gX1_sightBed_X6_within_n103 : GoodIn wsX1_sightBed (wsX6_within) := ggX1_sightBed_X6_within
theorem dX1_sightBed_0 : decode cX1_sightBed 0 = .ok (.iload_n 1, 1) := by decide +kernel
theorem dX1_sightBed_1 : decode cX1_sightBed 1 = .ok (.iconst 0, 1) := by decide +kernel
theorem dX1_sightBed_2 : decode cX1_sightBed 2 = .ok (.bipush 7, 2) := by decide +kernel
theorem dX1_sightBed_4 : decode cX1_sightBed 4 = .ok (.invokestatic 103, 3) := by decide +kernel
theorem dX1_sightBed_7 : decode cX1_sightBed 7 = .ok (.ifCond .eq 12, 3) := by decide +kernel
theorem dX1_sightBed_10 : decode cX1_sightBed 10 = .ok (.aload_n 0, 1) := by decide +kernel
theorem dX1_sightBed_11 : decode cX1_sightBed 11 = .ok (.getfield 27, 3) := by decide +kernel
theorem dX1_sightBed_14 : decode cX1_sightBed 14 = .ok (.iload_n 1, 1) := by decide +kernel
theorem dX1_sightBed_15 : decode cX1_sightBed 15 = .ok (.iaload, 1) := by decide +kernel
theorem dX1_sightBed_16 : decode cX1_sightBed 16 = .ok (.goto 5, 3) := by decide +kernel
theorem dX1_sightBed_19 : decode cX1_sightBed 19 = .ok (.bipush (-6), 2) := by decide +kernel
theorem dX1_sightBed_21 : decode cX1_sightBed 21 = .ok (.ireturn, 1) := by decide +kernel
set_option maxRecDepth 20000 in
theorem ggX1_sightTale_X6_within : GoodIn wsX1_sightTale wsX6_within := goodIn_r _ [4] (by decide +kernel) (by decide +kernel)
set_option maxRecDepth 20000 in
theorem gX1_sightTale_X6_within_n103 : GoodIn wsX1_sightTale (wsX6_within) := ggX1_sightTale_X6_within
theorem dX1_sightTale_0 : decode cX1_sightTale 0 = .ok (.iload_n 1, 1) := by decide +kernel
theorem dX1_sightTale_1 : decode cX1_sightTale 1 = .ok (.iconst 0, 1) := by decide +kernel
theorem dX1_sightTale_2 : decode cX1_sightTale 2 = .ok (.bipush 7, 2) := by decide +kernel
theorem dX1_sightTale_4 : decode cX1_sightTale 4 = .ok (.invokestatic 103, 3) := by decide +kernel
theorem dX1_sightTale_7 : decode cX1_sightTale 7 = .ok (.ifCond .eq 12, 3) := by decide +kernel
theorem dX1_sightTale_10 : decode cX1_sightTale 10 = .ok (.aload_n 0, 1) := by decide +kernel
theorem dX1_sightTale_11 : decode cX1_sightTale 11 = .ok (.getfield 30, 3) := by decide +kernel
theorem dX1_sightTale_14 : decode cX1_sightTale 14 = .ok (.iload_n 1, 1) := by decide +kernel
theorem dX1_sightTale_15 : decode cX1_sightTale 15 = .ok (.iaload, 1) := by decide +kernel
theorem dX1_sightTale_16 : decode cX1_sightTale 16 = .ok (.goto 5, 3) := by decide +kernel
theorem dX1_sightTale_19 : decode cX1_sightTale 19 = .ok (.bipush (-6), 2) := by decide +kernel
theorem dX1_sightTale_21 : decode cX1_sightTale 21 = .ok (.ireturn, 1) := by decide +kernel
set_option maxRecDepth 20000 in
theorem ggX1_reasonAgainst_X1_longBetween : GoodIn wsX1_reasonAgainst wsX1_longBetween := goodIn_r _ [8, 9, 10, 11, 12, 13, 14, 15, 16, 17, 18, 19, 20, 21, 22, 23, 24] (by decide +kernel) (by decide +kernel)
set_option maxRecDepth 20000 in
theorem gX1_reasonAgainst_X1_longBetween : GoodIn wsX1_reasonAgainst (wsV RX1 107 RX1 yX1_longBetween wsX1_longBetween) := goodIn_app (goodIn_of _ (by decide +kernel)) ggX1_reasonAgainst_X1_longBetween
theorem dX1_reasonAgainst_0 : decode cX1_reasonAgainst 0 = .ok (.iload_n 1, 1) := by decide +kernel
theorem dX1_reasonAgainst_1 : decode cX1_reasonAgainst 1 = .ok (.tableswitch 101 0 3 #[31, 46, 64, 88], 31) := by decide +kernel
theorem dX1_reasonAgainst_32 : decode cX1_reasonAgainst 32 = .ok (.aload_n 0, 1) := by decide +kernel
theorem dX1_reasonAgainst_33 : decode cX1_reasonAgainst 33 = .ok (.getfield 33, 3) := by decide +kernel
theorem dX1_reasonAgainst_36 : decode cX1_reasonAgainst 36 = .ok (.bipush 10, 2) := by decide +kernel
theorem dX1_reasonAgainst_38 : decode cX1_reasonAgainst 38 = .ok (.if_icmp .ne 7, 3) := by decide +kernel
theorem dX1_reasonAgainst_41 : decode cX1_reasonAgainst 41 = .ok (.iconst 0, 1) := by decide +kernel
theorem dX1_reasonAgainst_42 : decode cX1_reasonAgainst 42 = .ok (.goto 4, 3) := by decide +kernel
theorem dX1_reasonAgainst_45 : decode cX1_reasonAgainst 45 = .ok (.iconst 1, 1) := by decide +kernel
theorem dX1_reasonAgainst_46 : decode cX1_reasonAgainst 46 = .ok (.ireturn, 1) := by decide +kernel
theorem dX1_reasonAgainst_47 : decode cX1_reasonAgainst 47 = .ok (.aload_n 0, 1) := by decide +kernel
theorem dX1_reasonAgainst_48 : decode cX1_reasonAgainst 48 = .ok (.aload_n 0, 1) := by decide +kernel
theorem dX1_reasonAgainst_49 : decode cX1_reasonAgainst 49 = .ok (.getfield 33, 3) := by decide +kernel
theorem dX1_reasonAgainst_52 : decode cX1_reasonAgainst 52 = .ok (.iload_n 2, 1) := by decide +kernel
theorem dX1_reasonAgainst_53 : decode cX1_reasonAgainst 53 = .ok (.invokevirtual 107, 3) := by decide +kernel
theorem dX1_reasonAgainst_56 : decode cX1_reasonAgainst 56 = .ok (.ifCond .le 7, 3) := by decide +kernel
theorem dX1_reasonAgainst_59 : decode cX1_reasonAgainst 59 = .ok (.iconst 0, 1) := by decide +kernel
theorem dX1_reasonAgainst_60 : decode cX1_reasonAgainst 60 = .ok (.goto 4, 3) := by decide +kernel
theorem dX1_reasonAgainst_63 : decode cX1_reasonAgainst 63 = .ok (.iconst 2, 1) := by decide +kernel
theorem dX1_reasonAgainst_64 : decode cX1_reasonAgainst 64 = .ok (.ireturn, 1) := by decide +kernel
theorem dX1_reasonAgainst_65 : decode cX1_reasonAgainst 65 = .ok (.aload_n 0, 1) := by decide +kernel
theorem dX1_reasonAgainst_66 : decode cX1_reasonAgainst 66 = .ok (.getfield 33, 3) := by decide +kernel
theorem dX1_reasonAgainst_69 : decode cX1_reasonAgainst 69 = .ok (.bipush 10, 2) := by decide +kernel
theorem dX1_reasonAgainst_71 : decode cX1_reasonAgainst 71 = .ok (.if_icmp .ne 5, 3) := by decide +kernel
theorem dX1_reasonAgainst_74 : decode cX1_reasonAgainst 74 = .ok (.iconst 1, 1) := by decide +kernel
theorem dX1_reasonAgainst_75 : decode cX1_reasonAgainst 75 = .ok (.ireturn, 1) := by decide +kernel
theorem dX1_reasonAgainst_76 : decode cX1_reasonAgainst 76 = .ok (.aload_n 0, 1) := by decide +kernel
theorem dX1_reasonAgainst_77 : decode cX1_reasonAgainst 77 = .ok (.getfield 52, 3) := by decide +kernel
theorem dX1_reasonAgainst_80 : decode cX1_reasonAgainst 80 = .ok (.ifCond .le 7, 3) := by decide +kernel
theorem dX1_reasonAgainst_83 : decode cX1_reasonAgainst 83 = .ok (.iconst 0, 1) := by decide +kernel
theorem dX1_reasonAgainst_84 : decode cX1_reasonAgainst 84 = .ok (.goto 4, 3) := by decide +kernel
theorem dX1_reasonAgainst_87 : decode cX1_reasonAgainst 87 = .ok (.iconst 3, 1) := by decide +kernel
theorem dX1_reasonAgainst_88 : decode cX1_reasonAgainst 88 = .ok (.ireturn, 1) := by decide +kernel
theorem dX1_reasonAgainst_89 : decode cX1_reasonAgainst 89 = .ok (.aload_n 0, 1) := by decide +kernel
theorem dX1_reasonAgainst_90 : decode cX1_reasonAgainst 90 = .ok (.getfield 52, 3) := by decide +kernel
theorem dX1_reasonAgainst_93 : decode cX1_reasonAgainst 93 = .ok (.ifCond .le 7, 3) := by decide +kernel
theorem dX1_reasonAgainst_96 : decode cX1_reasonAgainst 96 = .ok (.iconst 0, 1) := by decide +kernel
theorem dX1_reasonAgainst_97 : decode cX1_reasonAgainst 97 = .ok (.goto 4, 3) := by decide +kernel
theorem dX1_reasonAgainst_100 : decode cX1_reasonAgainst 100 = .ok (.iconst 3, 1) := by decide +kernel
theorem dX1_reasonAgainst_101 : decode cX1_reasonAgainst 101 = .ok (.ireturn, 1) := by decide +kernel
theorem dX1_reasonAgainst_102 : decode cX1_reasonAgainst 102 = .ok (.aload_n 0, 1) := by decide +kernel
theorem dX1_reasonAgainst_103 : decode cX1_reasonAgainst 103 = .ok (.getfield 58, 3) := by decide +kernel
theorem dX1_reasonAgainst_106 : decode cX1_reasonAgainst 106 = .ok (.bipush 99, 2) := by decide +kernel
theorem dX1_reasonAgainst_108 : decode cX1_reasonAgainst 108 = .ok (.if_icmp .ge 7, 3) := by decide +kernel
theorem dX1_reasonAgainst_111 : decode cX1_reasonAgainst 111 = .ok (.iconst 0, 1) := by decide +kernel
theorem dX1_reasonAgainst_112 : decode cX1_reasonAgainst 112 = .ok (.goto 4, 3) := by decide +kernel
theorem dX1_reasonAgainst_115 : decode cX1_reasonAgainst 115 = .ok (.iconst 4, 1) := by decide +kernel
theorem dX1_reasonAgainst_116 : decode cX1_reasonAgainst 116 = .ok (.ireturn, 1) := by decide +kernel
set_option maxRecDepth 20000 in
theorem ggX1_act_X1_longBetween : GoodIn wsX1_act wsX1_longBetween := goodIn_r _ [17, 18, 19, 20, 21, 61, 62, 63, 64, 65, 66, 67, 68, 69, 70, 71, 72] (by decide +kernel) (by decide +kernel)
set_option maxRecDepth 20000 in
theorem gX1_act_X1_longBetween : GoodIn wsX1_act (wsV RX1 107 RX1 yX1_longBetween wsX1_longBetween) := goodIn_app (goodIn_of _ (by decide +kernel)) ggX1_act_X1_longBetween
set_option maxRecDepth 20000 in
theorem ggX1_act_X1_warmBed : GoodIn wsX1_act wsX1_warmBed := goodIn_r _ [25, 2, 4, 5, 6, 7, 1, 8, 9, 10, 26, 27, 28, 16, 29, 12, 30, 20, 31, 32, 33, 34, 35, 36, 37, 38, 39, 40, 41, 42, 43, 44, 45, 46, 47, 48, 49, 61, 62, 63, 64, 65, 66, 67, 68, 69, 70, 71, 72] (by decide +kernel) (by decide +kernel)
set_option maxRecDepth 20000 in
theorem gX1_act_X1_warmBed : GoodIn wsX1_act (wsV RX1 115 RX1 yX1_warmBed wsX1_warmBed) := goodIn_app (goodIn_of _ (by decide +kernel)) ggX1_act_X1_warmBed
set_option maxRecDepth 20000 in
theorem ggX1_act_X1_fadesInto : GoodIn wsX1_act wsX1_fadesInto := goodIn_r _ [53, 54, 55, 20, 56, 61, 62, 63, 64, 65, 66, 67, 68, 69, 70, 71, 72] (by decide +kernel) (by decide +kernel)
set_option maxRecDepth 20000 in
theorem gX1_act_X1_fadesInto : GoodIn wsX1_act (wsV RX1 89 RX1 yX1_fadesInto wsX1_fadesInto) := goodIn_app (goodIn_of _ (by decide +kernel)) ggX1_act_X1_fadesInto
set_option maxRecDepth 20000 in
theorem ggX1_act_J7_fill_53178 : GoodIn wsX1_act wsJ7_fill_53178 := goodIn_r _ [60] (by decide +kernel) (by decide +kernel)
set_option maxRecDepth 20000 in
theorem gX1_act_J7_fill_53178 : GoodIn wsX1_act (va_wsS RX1 37 yJ7_fill_53178 wsJ7_fill_53178) := goodIn_app (goodIn_of _ (by decide +kernel)) ggX1_act_J7_fill_53178
theorem dX1_act_0 : decode cX1_act 0 = .ok (.iload_n 1, 1) := by decide +kernel
theorem dX1_act_1 : decode cX1_act 1 = .ok (.tableswitch 116 0 3 #[31, 44, 74, 85], 31) := by decide +kernel
theorem dX1_act_32 : decode cX1_act 32 = .ok (.aload_n 0, 1) := by decide +kernel
theorem dX1_act_33 : decode cX1_act 33 = .ok (.iload_n 2, 1) := by decide +kernel
theorem dX1_act_34 : decode cX1_act 34 = .ok (.putfield 55, 3) := by decide +kernel
theorem dX1_act_37 : decode cX1_act 37 = .ok (.aload_n 0, 1) := by decide +kernel
theorem dX1_act_38 : decode cX1_act 38 = .ok (.iload_n 3, 1) := by decide +kernel
theorem dX1_act_39 : decode cX1_act 39 = .ok (.putfield 52, 3) := by decide +kernel
theorem dX1_act_42 : decode cX1_act 42 = .ok (.goto 104, 3) := by decide +kernel
theorem dX1_act_45 : decode cX1_act 45 = .ok (.aload_n 0, 1) := by decide +kernel
theorem dX1_act_46 : decode cX1_act 46 = .ok (.iconst 0, 1) := by decide +kernel
theorem dX1_act_47 : decode cX1_act 47 = .ok (.aload_n 0, 1) := by decide +kernel
theorem dX1_act_48 : decode cX1_act 48 = .ok (.getfield 52, 3) := by decide +kernel
theorem dX1_act_51 : decode cX1_act 51 = .ok (.aload_n 0, 1) := by decide +kernel
theorem dX1_act_52 : decode cX1_act 52 = .ok (.aload_n 0, 1) := by decide +kernel
theorem dX1_act_53 : decode cX1_act 53 = .ok (.getfield 33, 3) := by decide +kernel
theorem dX1_act_56 : decode cX1_act 56 = .ok (.iload_n 2, 1) := by decide +kernel
theorem dX1_act_57 : decode cX1_act 57 = .ok (.invokevirtual 107, 3) := by decide +kernel
theorem dX1_act_60 : decode cX1_act 60 = .ok (.isub, 1) := by decide +kernel
theorem dX1_act_61 : decode cX1_act 61 = .ok (.invokestatic 110, 3) := by decide +kernel
theorem dX1_act_64 : decode cX1_act 64 = .ok (.putfield 52, 3) := by decide +kernel
theorem dX1_act_67 : decode cX1_act 67 = .ok (.aload_n 0, 1) := by decide +kernel
theorem dX1_act_68 : decode cX1_act 68 = .ok (.iload_n 2, 1) := by decide +kernel
theorem dX1_act_69 : decode cX1_act 69 = .ok (.putfield 33, 3) := by decide +kernel
theorem dX1_act_72 : decode cX1_act 72 = .ok (.goto 74, 3) := by decide +kernel
theorem dX1_act_75 : decode cX1_act 75 = .ok (.aload_n 0, 1) := by decide +kernel
theorem dX1_act_76 : decode cX1_act 76 = .ok (.aload_n 0, 1) := by decide +kernel
theorem dX1_act_77 : decode cX1_act 77 = .ok (.getfield 33, 3) := by decide +kernel
theorem dX1_act_80 : decode cX1_act 80 = .ok (.invokevirtual 115, 3) := by decide +kernel
theorem dX1_act_83 : decode cX1_act 83 = .ok (.goto 63, 3) := by decide +kernel
theorem dX1_act_86 : decode cX1_act 86 = .ok (.aload_n 0, 1) := by decide +kernel
theorem dX1_act_87 : decode cX1_act 87 = .ok (.bipush 99, 2) := by decide +kernel
theorem dX1_act_89 : decode cX1_act 89 = .ok (.aload_n 0, 1) := by decide +kernel
theorem dX1_act_90 : decode cX1_act 90 = .ok (.getfield 52, 3) := by decide +kernel
theorem dX1_act_93 : decode cX1_act 93 = .ok (.bipush 10, 2) := by decide +kernel
theorem dX1_act_95 : decode cX1_act 95 = .ok (.iadd, 1) := by decide +kernel
theorem dX1_act_96 : decode cX1_act 96 = .ok (.invokestatic 119, 3) := by decide +kernel
theorem dX1_act_99 : decode cX1_act 99 = .ok (.putfield 52, 3) := by decide +kernel
theorem dX1_act_102 : decode cX1_act 102 = .ok (.aload_n 0, 1) := by decide +kernel
theorem dX1_act_103 : decode cX1_act 103 = .ok (.aload_n 0, 1) := by decide +kernel
theorem dX1_act_104 : decode cX1_act 104 = .ok (.aload_n 0, 1) := by decide +kernel
theorem dX1_act_105 : decode cX1_act 105 = .ok (.getfield 55, 3) := by decide +kernel
theorem dX1_act_108 : decode cX1_act 108 = .ok (.invokevirtual 89, 3) := by decide +kernel
theorem dX1_act_111 : decode cX1_act 111 = .ok (.putfield 55, 3) := by decide +kernel
theorem dX1_act_114 : decode cX1_act 114 = .ok (.goto 32, 3) := by decide +kernel
theorem dX1_act_117 : decode cX1_act 117 = .ok (.aload_n 0, 1) := by decide +kernel
theorem dX1_act_118 : decode cX1_act 118 = .ok (.bipush 10, 2) := by decide +kernel
theorem dX1_act_120 : decode cX1_act 120 = .ok (.putfield 33, 3) := by decide +kernel
theorem dX1_act_123 : decode cX1_act 123 = .ok (.aload_n 0, 1) := by decide +kernel
theorem dX1_act_124 : decode cX1_act 124 = .ok (.iconst 0, 1) := by decide +kernel
theorem dX1_act_125 : decode cX1_act 125 = .ok (.putfield 52, 3) := by decide +kernel
theorem dX1_act_128 : decode cX1_act 128 = .ok (.aload_n 0, 1) := by decide +kernel
theorem dX1_act_129 : decode cX1_act 129 = .ok (.dup, 1) := by decide +kernel
theorem dX1_act_130 : decode cX1_act 130 = .ok (.getfield 58, 3) := by decide +kernel
theorem dX1_act_133 : decode cX1_act 133 = .ok (.iconst 1, 1) := by decide +kernel
theorem dX1_act_134 : decode cX1_act 134 = .ok (.iadd, 1) := by decide +kernel
theorem dX1_act_135 : decode cX1_act 135 = .ok (.putfield 58, 3) := by decide +kernel
theorem dX1_act_138 : decode cX1_act 138 = .ok (.aload_n 0, 1) := by decide +kernel
theorem dX1_act_139 : decode cX1_act 139 = .ok (.getfield 18, 3) := by decide +kernel
theorem dX1_act_142 : decode cX1_act 142 = .ok (.iconst 0, 1) := by decide +kernel
theorem dX1_act_143 : decode cX1_act 143 = .ok (.invokestatic 37, 3) := by decide +kernel
theorem dX1_act_146 : decode cX1_act 146 = .ok (.return_, 1) := by decide +kernel
set_option maxRecDepth 20000 in
theorem ggX1_warmBed_X1_isDamp : GoodIn wsX1_warmBed wsX1_isDamp := goodIn_r _ [14, 15, 16, 17, 18, 37, 38, 39, 40, 41, 42, 43, 44, 45, 46, 47, 48] (by decide +kernel) (by decide +kernel)
set_option maxRecDepth 20000 in
theorem gX1_warmBed_X1_isDamp : GoodIn wsX1_warmBed (wsV RX1 75 RX1 yX1_isDamp wsX1_isDamp) := goodIn_app (goodIn_of _ (by decide +kernel)) ggX1_warmBed_X1_isDamp
set_option maxRecDepth 20000 in
theorem ggX1_warmBed_X1_isConvinced : GoodIn wsX1_warmBed wsX1_isConvinced := goodIn_r _ [22, 23, 16, 17, 18, 37, 38, 39, 40, 41, 42, 43, 44, 45, 46, 47, 48] (by decide +kernel) (by decide +kernel)
set_option maxRecDepth 20000 in
theorem gX1_warmBed_X1_isConvinced : GoodIn wsX1_warmBed (wsV RX1 122 RX1 yX1_isConvinced wsX1_isConvinced) := goodIn_app (goodIn_of _ (by decide +kernel)) ggX1_warmBed_X1_isConvinced
set_option maxRecDepth 20000 in
theorem ggX1_warmBed_X1_convince : GoodIn wsX1_warmBed wsX1_convince := goodIn_r _ [27, 28, 16, 17, 18, 37, 38, 39, 40, 41, 42, 43, 44, 45, 46, 47, 48] (by decide +kernel) (by decide +kernel)
set_option maxRecDepth 20000 in
theorem gX1_warmBed_X1_convince : GoodIn wsX1_warmBed (wsV RX1 125 RX1 yX1_convince wsX1_convince) := goodIn_app (goodIn_of _ (by decide +kernel)) ggX1_warmBed_X1_convince
set_option maxRecDepth 20000 in
theorem ggX1_warmBed_X1_doubtOf : GoodIn wsX1_warmBed wsX1_doubtOf := goodIn_r _ [32, 23, 16, 17, 18, 37, 38, 39, 40, 41, 42, 43, 44, 45, 46, 47, 48] (by decide +kernel) (by decide +kernel)
set_option maxRecDepth 20000 in
theorem gX1_warmBed_X1_doubtOf : GoodIn wsX1_warmBed (wsV RX1 72 RX1 yX1_doubtOf wsX1_doubtOf) := goodIn_app (goodIn_of _ (by decide +kernel)) ggX1_warmBed_X1_doubtOf
set_option maxRecDepth 20000 in
theorem ggX1_warmBed_X1_furnish : GoodIn wsX1_warmBed wsX1_furnish := goodIn_r _ [36, 23, 15, 16, 17, 18, 37, 38, 39, 40, 41, 42, 43, 44, 45, 46, 47, 48] (by decide +kernel) (by decide +kernel)
set_option maxRecDepth 20000 in
theorem gX1_warmBed_X1_furnish : GoodIn wsX1_warmBed (wsV RX1 129 RX1 yX1_furnish wsX1_furnish) := goodIn_app (goodIn_of _ (by decide +kernel)) ggX1_warmBed_X1_furnish
theorem dX1_warmBed_0 : decode cX1_warmBed 0 = .ok (.aload_n 0, 1) := by decide +kernel
theorem dX1_warmBed_1 : decode cX1_warmBed 1 = .ok (.iload_n 1, 1) := by decide +kernel
theorem dX1_warmBed_2 : decode cX1_warmBed 2 = .ok (.invokevirtual 75, 3) := by decide +kernel
theorem dX1_warmBed_5 : decode cX1_warmBed 5 = .ok (.ifCond .eq 19, 3) := by decide +kernel
theorem dX1_warmBed_8 : decode cX1_warmBed 8 = .ok (.aload_n 0, 1) := by decide +kernel
theorem dX1_warmBed_9 : decode cX1_warmBed 9 = .ok (.iconst 0, 1) := by decide +kernel
theorem dX1_warmBed_10 : decode cX1_warmBed 10 = .ok (.aload_n 0, 1) := by decide +kernel
theorem dX1_warmBed_11 : decode cX1_warmBed 11 = .ok (.getfield 52, 3) := by decide +kernel
theorem dX1_warmBed_14 : decode cX1_warmBed 14 = .ok (.bipush 10, 2) := by decide +kernel
theorem dX1_warmBed_16 : decode cX1_warmBed 16 = .ok (.isub, 1) := by decide +kernel
theorem dX1_warmBed_17 : decode cX1_warmBed 17 = .ok (.invokestatic 110, 3) := by decide +kernel
theorem dX1_warmBed_20 : decode cX1_warmBed 20 = .ok (.putfield 52, 3) := by decide +kernel
theorem dX1_warmBed_23 : decode cX1_warmBed 23 = .ok (.return_, 1) := by decide +kernel
theorem dX1_warmBed_24 : decode cX1_warmBed 24 = .ok (.aload_n 0, 1) := by decide +kernel
theorem dX1_warmBed_25 : decode cX1_warmBed 25 = .ok (.iload_n 1, 1) := by decide +kernel
theorem dX1_warmBed_26 : decode cX1_warmBed 26 = .ok (.aload_n 0, 1) := by decide +kernel
theorem dX1_warmBed_27 : decode cX1_warmBed 27 = .ok (.getfield 52, 3) := by decide +kernel
theorem dX1_warmBed_30 : decode cX1_warmBed 30 = .ok (.invokevirtual 122, 3) := by decide +kernel
theorem dX1_warmBed_33 : decode cX1_warmBed 33 = .ok (.ifCond .eq 15, 3) := by decide +kernel
theorem dX1_warmBed_36 : decode cX1_warmBed 36 = .ok (.aload_n 0, 1) := by decide +kernel
theorem dX1_warmBed_37 : decode cX1_warmBed 37 = .ok (.iload_n 1, 1) := by decide +kernel
theorem dX1_warmBed_38 : decode cX1_warmBed 38 = .ok (.aload_n 0, 1) := by decide +kernel
theorem dX1_warmBed_39 : decode cX1_warmBed 39 = .ok (.getfield 55, 3) := by decide +kernel
theorem dX1_warmBed_42 : decode cX1_warmBed 42 = .ok (.invokevirtual 125, 3) := by decide +kernel
theorem dX1_warmBed_45 : decode cX1_warmBed 45 = .ok (.goto 21, 3) := by decide +kernel
theorem dX1_warmBed_48 : decode cX1_warmBed 48 = .ok (.aload_n 0, 1) := by decide +kernel
theorem dX1_warmBed_49 : decode cX1_warmBed 49 = .ok (.iload_n 1, 1) := by decide +kernel
theorem dX1_warmBed_50 : decode cX1_warmBed 50 = .ok (.bipush 9, 2) := by decide +kernel
theorem dX1_warmBed_52 : decode cX1_warmBed 52 = .ok (.aload_n 0, 1) := by decide +kernel
theorem dX1_warmBed_53 : decode cX1_warmBed 53 = .ok (.iload_n 1, 1) := by decide +kernel
theorem dX1_warmBed_54 : decode cX1_warmBed 54 = .ok (.invokevirtual 72, 3) := by decide +kernel
theorem dX1_warmBed_57 : decode cX1_warmBed 57 = .ok (.iconst 1, 1) := by decide +kernel
theorem dX1_warmBed_58 : decode cX1_warmBed 58 = .ok (.iadd, 1) := by decide +kernel
theorem dX1_warmBed_59 : decode cX1_warmBed 59 = .ok (.invokestatic 119, 3) := by decide +kernel
theorem dX1_warmBed_62 : decode cX1_warmBed 62 = .ok (.iconst 0, 1) := by decide +kernel
theorem dX1_warmBed_63 : decode cX1_warmBed 63 = .ok (.invokevirtual 129, 3) := by decide +kernel
theorem dX1_warmBed_66 : decode cX1_warmBed 66 = .ok (.aload_n 0, 1) := by decide +kernel
theorem dX1_warmBed_67 : decode cX1_warmBed 67 = .ok (.iconst 0, 1) := by decide +kernel
theorem dX1_warmBed_68 : decode cX1_warmBed 68 = .ok (.aload_n 0, 1) := by decide +kernel
theorem dX1_warmBed_69 : decode cX1_warmBed 69 = .ok (.getfield 52, 3) := by decide +kernel
theorem dX1_warmBed_72 : decode cX1_warmBed 72 = .ok (.iconst 5, 1) := by decide +kernel
theorem dX1_warmBed_73 : decode cX1_warmBed 73 = .ok (.isub, 1) := by decide +kernel
theorem dX1_warmBed_74 : decode cX1_warmBed 74 = .ok (.invokestatic 110, 3) := by decide +kernel
theorem dX1_warmBed_77 : decode cX1_warmBed 77 = .ok (.putfield 52, 3) := by decide +kernel
theorem dX1_warmBed_80 : decode cX1_warmBed 80 = .ok (.return_, 1) := by decide +kernel
set_option maxRecDepth 20000 in
theorem ggX1_isConvinced_X6_isHouse : GoodIn wsX1_isConvinced wsX6_isHouse := goodIn_r _ [4] (by decide +kernel) (by decide +kernel)
set_option maxRecDepth 20000 in
theorem gX1_isConvinced_X6_isHouse_n65 : GoodIn wsX1_isConvinced (wsX6_isHouse) := ggX1_isConvinced_X6_isHouse
theorem dX1_isConvinced_0 : decode cX1_isConvinced 0 = .ok (.iload_n 1, 1) := by decide +kernel
theorem dX1_isConvinced_1 : decode cX1_isConvinced 1 = .ok (.invokestatic 65, 3) := by decide +kernel
theorem dX1_isConvinced_4 : decode cX1_isConvinced 4 = .ok (.ifCond .eq 20, 3) := by decide +kernel
theorem dX1_isConvinced_7 : decode cX1_isConvinced 7 = .ok (.iload_n 2, 1) := by decide +kernel
theorem dX1_isConvinced_8 : decode cX1_isConvinced 8 = .ok (.bipush 9, 2) := by decide +kernel
theorem dX1_isConvinced_10 : decode cX1_isConvinced 10 = .ok (.aload_n 0, 1) := by decide +kernel
theorem dX1_isConvinced_11 : decode cX1_isConvinced 11 = .ok (.getfield 15, 3) := by decide +kernel
theorem dX1_isConvinced_14 : decode cX1_isConvinced 14 = .ok (.iload_n 1, 1) := by decide +kernel
theorem dX1_isConvinced_15 : decode cX1_isConvinced 15 = .ok (.iaload, 1) := by decide +kernel
theorem dX1_isConvinced_16 : decode cX1_isConvinced 16 = .ok (.imul, 1) := by decide +kernel
theorem dX1_isConvinced_17 : decode cX1_isConvinced 17 = .ok (.if_icmp .le 7, 3) := by decide +kernel
theorem dX1_isConvinced_20 : decode cX1_isConvinced 20 = .ok (.iconst 1, 1) := by decide +kernel
theorem dX1_isConvinced_21 : decode cX1_isConvinced 21 = .ok (.goto 4, 3) := by decide +kernel
theorem dX1_isConvinced_24 : decode cX1_isConvinced 24 = .ok (.iconst 0, 1) := by decide +kernel
theorem dX1_isConvinced_25 : decode cX1_isConvinced 25 = .ok (.ireturn, 1) := by decide +kernel
set_option maxRecDepth 20000 in
theorem ggX1_liveYear_X1_kindDrawn : GoodIn wsX1_liveYear wsX1_kindDrawn := goodIn_r _ [5] (by decide +kernel) (by decide +kernel)
set_option maxRecDepth 20000 in
theorem gX1_liveYear_X1_kindDrawn : GoodIn wsX1_liveYear (va_wsS RX1 134 yX1_kindDrawn wsX1_kindDrawn) := goodIn_app (goodIn_of _ (by decide +kernel)) ggX1_liveYear_X1_kindDrawn
set_option maxRecDepth 20000 in
theorem ggX1_liveYear_X1_reasonAgainst : GoodIn wsX1_liveYear wsX1_reasonAgainst := goodIn_r _ [9, 10, 11, 12, 13, 14, 15, 4, 16, 17, 18, 19, 20, 73, 74, 75, 76, 77, 78, 79, 80, 81, 82, 83, 84] (by decide +kernel) (by decide +kernel)
set_option maxRecDepth 20000 in
theorem gX1_liveYear_X1_reasonAgainst : GoodIn wsX1_liveYear (wsV RX1 137 RX1 yX1_reasonAgainst wsX1_reasonAgainst) := goodIn_app (goodIn_of _ (by decide +kernel)) ggX1_liveYear_X1_reasonAgainst
set_option maxRecDepth 20000 in
theorem ggX1_liveYear_X1_act : GoodIn wsX1_liveYear wsX1_act := goodIn_r _ [24, 25, 11, 10, 26, 27, 28, 29, 30, 31, 32, 12, 33, 13, 14, 15, 4, 16, 17, 18, 19, 20, 34, 35, 36, 37, 38, 39, 40, 41, 42, 43, 44, 45, 46, 47, 48, 49, 50, 51, 52, 53, 54, 55, 56, 57, 58, 59, 60, 61, 62, 63, 64, 65, 66, 67, 68, 69, 70, 71, 72, 73, 74, 75, 76, 77, 78, 79, 80, 81, 82, 83, 84] (by decide +kernel) (by decide +kernel)
set_option maxRecDepth 20000 in
theorem gX1_liveYear_X1_act : GoodIn wsX1_liveYear (wsV RX1 140 RX1 yX1_act wsX1_act) := goodIn_app (goodIn_of _ (by decide +kernel)) ggX1_liveYear_X1_act
theorem dX1_liveYear_0 : decode cX1_liveYear 0 = .ok (.iload_n 1, 1) := by decide +kernel
theorem dX1_liveYear_1 : decode cX1_liveYear 1 = .ok (.istore_n 3, 1) := by decide +kernel
theorem dX1_liveYear_2 : decode cX1_liveYear 2 = .ok (.iconst 0, 1) := by decide +kernel
theorem dX1_liveYear_3 : decode cX1_liveYear 3 = .ok (.istore 4, 2) := by decide +kernel
theorem dX1_liveYear_5 : decode cX1_liveYear 5 = .ok (.iload 4, 2) := by decide +kernel
theorem dX1_liveYear_7 : decode cX1_liveYear 7 = .ok (.iload_n 2, 1) := by decide +kernel
theorem dX1_liveYear_8 : decode cX1_liveYear 8 = .ok (.if_icmp .ge 85, 3) := by decide +kernel
theorem dX1_liveYear_11 : decode cX1_liveYear 11 = .ok (.bipush 75, 2) := by decide +kernel
theorem dX1_liveYear_13 : decode cX1_liveYear 13 = .ok (.iload_n 3, 1) := by decide +kernel
theorem dX1_liveYear_14 : decode cX1_liveYear 14 = .ok (.imul, 1) := by decide +kernel
theorem dX1_liveYear_15 : decode cX1_liveYear 15 = .ok (.bipush 74, 2) := by decide +kernel
theorem dX1_liveYear_17 : decode cX1_liveYear 17 = .ok (.iadd, 1) := by decide +kernel
theorem dX1_liveYear_18 : decode cX1_liveYear 18 = .ok (.ldc 133, 2) := by decide +kernel
theorem dX1_liveYear_20 : decode cX1_liveYear 20 = .ok (.irem, 1) := by decide +kernel
theorem dX1_liveYear_21 : decode cX1_liveYear 21 = .ok (.istore_n 3, 1) := by decide +kernel
theorem dX1_liveYear_22 : decode cX1_liveYear 22 = .ok (.iload_n 3, 1) := by decide +kernel
theorem dX1_liveYear_23 : decode cX1_liveYear 23 = .ok (.bipush 8, 2) := by decide +kernel
theorem dX1_liveYear_25 : decode cX1_liveYear 25 = .ok (.irem, 1) := by decide +kernel
theorem dX1_liveYear_26 : decode cX1_liveYear 26 = .ok (.invokestatic 134, 3) := by decide +kernel
theorem dX1_liveYear_29 : decode cX1_liveYear 29 = .ok (.istore 5, 2) := by decide +kernel
theorem dX1_liveYear_31 : decode cX1_liveYear 31 = .ok (.iload 5, 2) := by decide +kernel
theorem dX1_liveYear_33 : decode cX1_liveYear 33 = .ok (.iconst 1, 1) := by decide +kernel
theorem dX1_liveYear_34 : decode cX1_liveYear 34 = .ok (.if_icmp .ne 13, 3) := by decide +kernel
theorem dX1_liveYear_37 : decode cX1_liveYear 37 = .ok (.iload_n 3, 1) := by decide +kernel
theorem dX1_liveYear_38 : decode cX1_liveYear 38 = .ok (.bipush 8, 2) := by decide +kernel
theorem dX1_liveYear_40 : decode cX1_liveYear 40 = .ok (.idiv, 1) := by decide +kernel
theorem dX1_liveYear_41 : decode cX1_liveYear 41 = .ok (.bipush 11, 2) := by decide +kernel
theorem dX1_liveYear_43 : decode cX1_liveYear 43 = .ok (.irem, 1) := by decide +kernel
theorem dX1_liveYear_44 : decode cX1_liveYear 44 = .ok (.goto 10, 3) := by decide +kernel
theorem dX1_liveYear_47 : decode cX1_liveYear 47 = .ok (.iload_n 3, 1) := by decide +kernel
theorem dX1_liveYear_48 : decode cX1_liveYear 48 = .ok (.bipush 8, 2) := by decide +kernel
theorem dX1_liveYear_50 : decode cX1_liveYear 50 = .ok (.idiv, 1) := by decide +kernel
theorem dX1_liveYear_51 : decode cX1_liveYear 51 = .ok (.bipush 10, 2) := by decide +kernel
theorem dX1_liveYear_53 : decode cX1_liveYear 53 = .ok (.irem, 1) := by decide +kernel
theorem dX1_liveYear_54 : decode cX1_liveYear 54 = .ok (.istore 6, 2) := by decide +kernel
theorem dX1_liveYear_56 : decode cX1_liveYear 56 = .ok (.aload_n 0, 1) := by decide +kernel
theorem dX1_liveYear_57 : decode cX1_liveYear 57 = .ok (.iload 5, 2) := by decide +kernel
theorem dX1_liveYear_59 : decode cX1_liveYear 59 = .ok (.iload 6, 2) := by decide +kernel
theorem dX1_liveYear_61 : decode cX1_liveYear 61 = .ok (.invokevirtual 137, 3) := by decide +kernel
theorem dX1_liveYear_64 : decode cX1_liveYear 64 = .ok (.ifCond .ne 23, 3) := by decide +kernel
theorem dX1_liveYear_67 : decode cX1_liveYear 67 = .ok (.aload_n 0, 1) := by decide +kernel
theorem dX1_liveYear_68 : decode cX1_liveYear 68 = .ok (.iload 5, 2) := by decide +kernel
theorem dX1_liveYear_70 : decode cX1_liveYear 70 = .ok (.iload 6, 2) := by decide +kernel
theorem dX1_liveYear_72 : decode cX1_liveYear 72 = .ok (.bipush 10, 2) := by decide +kernel
theorem dX1_liveYear_74 : decode cX1_liveYear 74 = .ok (.iconst 1, 1) := by decide +kernel
theorem dX1_liveYear_75 : decode cX1_liveYear 75 = .ok (.iload_n 3, 1) := by decide +kernel
theorem dX1_liveYear_76 : decode cX1_liveYear 76 = .ok (.bipush 80, 2) := by decide +kernel
theorem dX1_liveYear_78 : decode cX1_liveYear 78 = .ok (.idiv, 1) := by decide +kernel
theorem dX1_liveYear_79 : decode cX1_liveYear 79 = .ok (.bipush 9, 2) := by decide +kernel
theorem dX1_liveYear_81 : decode cX1_liveYear 81 = .ok (.irem, 1) := by decide +kernel
theorem dX1_liveYear_82 : decode cX1_liveYear 82 = .ok (.iadd, 1) := by decide +kernel
theorem dX1_liveYear_83 : decode cX1_liveYear 83 = .ok (.imul, 1) := by decide +kernel
theorem dX1_liveYear_84 : decode cX1_liveYear 84 = .ok (.invokevirtual 140, 3) := by decide +kernel
theorem dX1_liveYear_87 : decode cX1_liveYear 87 = .ok (.iinc 4 1, 3) := by decide +kernel
theorem dX1_liveYear_90 : decode cX1_liveYear 90 = .ok (.goto (-85), 3) := by decide +kernel
theorem dX1_liveYear_93 : decode cX1_liveYear 93 = .ok (.return_, 1) := by decide +kernel
theorem dX1_kindDrawn_0 : decode cX1_kindDrawn 0 = .ok (.iload_n 0, 1) := by decide +kernel
theorem dX1_kindDrawn_1 : decode cX1_kindDrawn 1 = .ok (.tableswitch 51 0 6 #[43, 43, 43, 45, 45, 47, 49], 43) := by decide +kernel
theorem dX1_kindDrawn_44 : decode cX1_kindDrawn 44 = .ok (.iconst 1, 1) := by decide +kernel
theorem dX1_kindDrawn_45 : decode cX1_kindDrawn 45 = .ok (.ireturn, 1) := by decide +kernel
theorem dX1_kindDrawn_46 : decode cX1_kindDrawn 46 = .ok (.iconst 2, 1) := by decide +kernel
theorem dX1_kindDrawn_47 : decode cX1_kindDrawn 47 = .ok (.ireturn, 1) := by decide +kernel
theorem dX1_kindDrawn_48 : decode cX1_kindDrawn 48 = .ok (.iconst 3, 1) := by decide +kernel
theorem dX1_kindDrawn_49 : decode cX1_kindDrawn 49 = .ok (.ireturn, 1) := by decide +kernel
theorem dX1_kindDrawn_50 : decode cX1_kindDrawn 50 = .ok (.iconst 0, 1) := by decide +kernel
theorem dX1_kindDrawn_51 : decode cX1_kindDrawn 51 = .ok (.ireturn, 1) := by decide +kernel
theorem dX1_kindDrawn_52 : decode cX1_kindDrawn 52 = .ok (.iconst 4, 1) := by decide +kernel
theorem dX1_kindDrawn_53 : decode cX1_kindDrawn 53 = .ok (.ireturn, 1) := by decide +kernel
theorem dX2_init_0 : decode cX2_init 0 = .ok (.aload_n 0, 1) := by decide +kernel
theorem dX2_init_1 : decode cX2_init 1 = .ok (.invokespecial 3, 3) := by decide +kernel
theorem dX2_init_4 : decode cX2_init 4 = .ok (.return_, 1) := by decide +kernel
set_option maxRecDepth 20000 in
theorem ggX2_pass_X3_faultPlace : GoodIn wsX2_pass wsX3_faultPlace := goodIn_r _ [11, 12, 13, 14, 15, 10, 16, 17, 18, 19, 20, 21, 22, 23, 24, 25, 26, 27, 28, 29, 30, 31, 32, 140, 141] (by decide +kernel) (by decide +kernel)
set_option maxRecDepth 20000 in
theorem gX2_pass_X3_faultPlace : GoodIn wsX2_pass (wsV RX2 30 RX3 yX3_faultPlace wsX3_faultPlace) := goodIn_app (goodIn_of _ (by decide +kernel)) ggX2_pass_X3_faultPlace
set_option maxRecDepth 20000 in
theorem ggX2_pass_X1_copyFrom : GoodIn wsX2_pass wsX1_copyFrom := goodIn_r _ [37, 38, 39, 40, 41, 42, 43, 44, 45, 46, 47, 48, 49, 50, 51, 52, 53, 142, 143, 144, 145, 146, 147, 148, 149, 150, 151, 152, 153] (by decide +kernel) (by decide +kernel)
set_option maxRecDepth 20000 in
theorem gX2_pass_X1_copyFrom : GoodIn wsX2_pass (wsV RX2 36 RX1 yX1_copyFrom wsX1_copyFrom) := goodIn_app (goodIn_of _ (by decide +kernel)) ggX2_pass_X1_copyFrom
set_option maxRecDepth 20000 in
theorem ggX2_pass_X3_size : GoodIn wsX2_pass wsX3_size := goodIn_r _ [57, 12, 140, 141] (by decide +kernel) (by decide +kernel)
set_option maxRecDepth 20000 in
theorem gX2_pass_X3_size : GoodIn wsX2_pass (wsV RX2 42 RX3 yX3_size wsX3_size) := goodIn_app (goodIn_of _ (by decide +kernel)) ggX2_pass_X3_size
set_option maxRecDepth 20000 in
theorem ggX2_pass_X3_kindAt : GoodIn wsX2_pass wsX3_kindAt := goodIn_r _ [16, 17, 18, 19, 10, 20, 12, 21, 22, 23, 24, 25, 26, 27, 28, 140, 141] (by decide +kernel) (by decide +kernel)
set_option maxRecDepth 20000 in
theorem gX2_pass_X3_kindAt : GoodIn wsX2_pass (wsV RX2 45 RX3 yX3_kindAt wsX3_kindAt) := goodIn_app (goodIn_of _ (by decide +kernel)) ggX2_pass_X3_kindAt
set_option maxRecDepth 20000 in
theorem ggX2_pass_X3_whatAt : GoodIn wsX2_pass wsX3_whatAt := goodIn_r _ [62, 13, 14, 15, 10, 16, 17, 18, 19, 20, 12, 21, 22, 23, 24, 25, 26, 27, 28, 29, 30, 31, 32, 140, 141] (by decide +kernel) (by decide +kernel)
set_option maxRecDepth 20000 in
theorem gX2_pass_X3_whatAt : GoodIn wsX2_pass (wsV RX2 49 RX3 yX3_whatAt wsX3_whatAt) := goodIn_app (goodIn_of _ (by decide +kernel)) ggX2_pass_X3_whatAt
set_option maxRecDepth 20000 in
theorem ggX2_pass_X1_reasonAgainst : GoodIn wsX2_pass wsX1_reasonAgainst := goodIn_r _ [66, 50, 51, 53, 67, 68, 69, 36, 70, 38, 71, 23, 72, 142, 143, 144, 145, 146, 147, 148, 149, 150, 151, 152, 153] (by decide +kernel) (by decide +kernel)
set_option maxRecDepth 20000 in
theorem gX2_pass_X1_reasonAgainst : GoodIn wsX2_pass (wsV RX2 52 RX1 yX1_reasonAgainst wsX1_reasonAgainst) := goodIn_app (goodIn_of _ (by decide +kernel)) ggX2_pass_X1_reasonAgainst
set_option maxRecDepth 20000 in
theorem ggX2_pass_X3_digitAt : GoodIn wsX2_pass wsX3_digitAt := goodIn_r _ [32, 17, 18, 19, 10, 20, 12, 21, 22, 23, 24, 140, 141] (by decide +kernel) (by decide +kernel)
set_option maxRecDepth 20000 in
theorem gX2_pass_X3_digitAt : GoodIn wsX2_pass (wsV RX2 56 RX3 yX3_digitAt wsX3_digitAt) := goodIn_app (goodIn_of _ (by decide +kernel)) ggX2_pass_X3_digitAt
set_option maxRecDepth 20000 in
theorem ggX2_pass_X2_actOn : GoodIn wsX2_pass wsX2_actOn := goodIn_r _ [78, 5, 1, 6, 2, 79, 80, 81, 36, 82, 50, 51, 52, 53, 83, 84, 85, 86, 45, 87, 23, 88, 89, 90, 91, 92, 93, 94, 95, 96, 97, 98, 99, 44, 67, 68, 69, 70, 38, 71, 72, 100, 101, 102, 103, 104, 105, 106, 107, 108, 109, 110, 111, 43, 112, 113, 114, 115, 116, 117, 118, 119, 120, 121, 122, 123, 124, 125, 126, 127, 46, 128, 129, 130, 131, 132, 133, 134, 135, 136, 137, 138, 139, 142, 143, 144, 145, 146, 147, 148, 149, 150, 151, 152, 153] (by decide +kernel) (by decide +kernel)
set_option maxRecDepth 20000 in
theorem gX2_pass_X2_actOn : GoodIn wsX2_pass (wsV RX2 59 RX2 yX2_actOn wsX2_actOn) := goodIn_app (goodIn_of _ (by decide +kernel)) ggX2_pass_X2_actOn
theorem dX2_pass_0 : decode cX2_pass 0 = .ok (.aload_n 0, 1) := by decide +kernel
theorem dX2_pass_1 : decode cX2_pass 1 = .ok (.iconst 0, 1) := by decide +kernel
theorem dX2_pass_2 : decode cX2_pass 2 = .ok (.putfield 9, 3) := by decide +kernel
theorem dX2_pass_5 : decode cX2_pass 5 = .ok (.aload_n 0, 1) := by decide +kernel
theorem dX2_pass_6 : decode cX2_pass 6 = .ok (.iconst 0, 1) := by decide +kernel
theorem dX2_pass_7 : decode cX2_pass 7 = .ok (.putfield 15, 3) := by decide +kernel
theorem dX2_pass_10 : decode cX2_pass 10 = .ok (.aload_n 0, 1) := by decide +kernel
theorem dX2_pass_11 : decode cX2_pass 11 = .ok (.bipush (-6), 2) := by decide +kernel
theorem dX2_pass_13 : decode cX2_pass 13 = .ok (.putfield 18, 3) := by decide +kernel
theorem dX2_pass_16 : decode cX2_pass 16 = .ok (.aload_n 0, 1) := by decide +kernel
theorem dX2_pass_17 : decode cX2_pass 17 = .ok (.bipush (-6), 2) := by decide +kernel
theorem dX2_pass_19 : decode cX2_pass 19 = .ok (.putfield 21, 3) := by decide +kernel
theorem dX2_pass_22 : decode cX2_pass 22 = .ok (.aload_n 0, 1) := by decide +kernel
theorem dX2_pass_23 : decode cX2_pass 23 = .ok (.bipush (-6), 2) := by decide +kernel
theorem dX2_pass_25 : decode cX2_pass 25 = .ok (.putfield 24, 3) := by decide +kernel
theorem dX2_pass_28 : decode cX2_pass 28 = .ok (.aload_n 0, 1) := by decide +kernel
theorem dX2_pass_29 : decode cX2_pass 29 = .ok (.bipush (-6), 2) := by decide +kernel
theorem dX2_pass_31 : decode cX2_pass 31 = .ok (.putfield 27, 3) := by decide +kernel
theorem dX2_pass_34 : decode cX2_pass 34 = .ok (.aload_n 1, 1) := by decide +kernel
theorem dX2_pass_35 : decode cX2_pass 35 = .ok (.invokevirtual 30, 3) := by decide +kernel
theorem dX2_pass_38 : decode cX2_pass 38 = .ok (.bipush (-6), 2) := by decide +kernel
theorem dX2_pass_40 : decode cX2_pass 40 = .ok (.if_icmp .eq 6, 3) := by decide +kernel
theorem dX2_pass_43 : decode cX2_pass 43 = .ok (.bipush (-5), 2) := by decide +kernel
theorem dX2_pass_45 : decode cX2_pass 45 = .ok (.ireturn, 1) := by decide +kernel
theorem dX2_pass_46 : decode cX2_pass 46 = .ok (.aload_n 2, 1) := by decide +kernel
theorem dX2_pass_47 : decode cX2_pass 47 = .ok (.aload_n 3, 1) := by decide +kernel
theorem dX2_pass_48 : decode cX2_pass 48 = .ok (.invokevirtual 36, 3) := by decide +kernel
theorem dX2_pass_51 : decode cX2_pass 51 = .ok (.iconst 0, 1) := by decide +kernel
theorem dX2_pass_52 : decode cX2_pass 52 = .ok (.istore 4, 2) := by decide +kernel
theorem dX2_pass_54 : decode cX2_pass 54 = .ok (.iload 4, 2) := by decide +kernel
theorem dX2_pass_56 : decode cX2_pass 56 = .ok (.aload_n 1, 1) := by decide +kernel
theorem dX2_pass_57 : decode cX2_pass 57 = .ok (.invokevirtual 42, 3) := by decide +kernel
theorem dX2_pass_60 : decode cX2_pass 60 = .ok (.if_icmp .ge 89, 3) := by decide +kernel
theorem dX2_pass_63 : decode cX2_pass 63 = .ok (.aload_n 1, 1) := by decide +kernel
theorem dX2_pass_64 : decode cX2_pass 64 = .ok (.iload 4, 2) := by decide +kernel
theorem dX2_pass_66 : decode cX2_pass 66 = .ok (.invokevirtual 45, 3) := by decide +kernel
theorem dX2_pass_69 : decode cX2_pass 69 = .ok (.istore 5, 2) := by decide +kernel
theorem dX2_pass_71 : decode cX2_pass 71 = .ok (.aload_n 2, 1) := by decide +kernel
theorem dX2_pass_72 : decode cX2_pass 72 = .ok (.iload 5, 2) := by decide +kernel
theorem dX2_pass_74 : decode cX2_pass 74 = .ok (.aload_n 1, 1) := by decide +kernel
theorem dX2_pass_75 : decode cX2_pass 75 = .ok (.iload 4, 2) := by decide +kernel
theorem dX2_pass_77 : decode cX2_pass 77 = .ok (.invokevirtual 49, 3) := by decide +kernel
theorem dX2_pass_80 : decode cX2_pass 80 = .ok (.invokevirtual 52, 3) := by decide +kernel
theorem dX2_pass_83 : decode cX2_pass 83 = .ok (.istore 6, 2) := by decide +kernel
theorem dX2_pass_85 : decode cX2_pass 85 = .ok (.iload 6, 2) := by decide +kernel
theorem dX2_pass_87 : decode cX2_pass 87 = .ok (.ifCond .eq 20, 3) := by decide +kernel
theorem dX2_pass_90 : decode cX2_pass 90 = .ok (.aload_n 0, 1) := by decide +kernel
theorem dX2_pass_91 : decode cX2_pass 91 = .ok (.aload_n 0, 1) := by decide +kernel
theorem dX2_pass_92 : decode cX2_pass 92 = .ok (.getfield 9, 3) := by decide +kernel
theorem dX2_pass_95 : decode cX2_pass 95 = .ok (.putfield 18, 3) := by decide +kernel
theorem dX2_pass_98 : decode cX2_pass 98 = .ok (.aload_n 0, 1) := by decide +kernel
theorem dX2_pass_99 : decode cX2_pass 99 = .ok (.iload 6, 2) := by decide +kernel
theorem dX2_pass_101 : decode cX2_pass 101 = .ok (.putfield 21, 3) := by decide +kernel
theorem dX2_pass_104 : decode cX2_pass 104 = .ok (.bipush (-3), 2) := by decide +kernel
theorem dX2_pass_106 : decode cX2_pass 106 = .ok (.ireturn, 1) := by decide +kernel
theorem dX2_pass_107 : decode cX2_pass 107 = .ok (.aload_n 0, 1) := by decide +kernel
theorem dX2_pass_108 : decode cX2_pass 108 = .ok (.aload_n 2, 1) := by decide +kernel
theorem dX2_pass_109 : decode cX2_pass 109 = .ok (.iload 5, 2) := by decide +kernel
theorem dX2_pass_111 : decode cX2_pass 111 = .ok (.aload_n 1, 1) := by decide +kernel
theorem dX2_pass_112 : decode cX2_pass 112 = .ok (.iload 4, 2) := by decide +kernel
theorem dX2_pass_114 : decode cX2_pass 114 = .ok (.invokevirtual 49, 3) := by decide +kernel
theorem dX2_pass_117 : decode cX2_pass 117 = .ok (.bipush 10, 2) := by decide +kernel
theorem dX2_pass_119 : decode cX2_pass 119 = .ok (.aload_n 1, 1) := by decide +kernel
theorem dX2_pass_120 : decode cX2_pass 120 = .ok (.iload 4, 2) := by decide +kernel
theorem dX2_pass_122 : decode cX2_pass 122 = .ok (.iconst 2, 1) := by decide +kernel
theorem dX2_pass_123 : decode cX2_pass 123 = .ok (.iadd, 1) := by decide +kernel
theorem dX2_pass_124 : decode cX2_pass 124 = .ok (.invokevirtual 56, 3) := by decide +kernel
theorem dX2_pass_127 : decode cX2_pass 127 = .ok (.imul, 1) := by decide +kernel
theorem dX2_pass_128 : decode cX2_pass 128 = .ok (.invokevirtual 59, 3) := by decide +kernel
theorem dX2_pass_131 : decode cX2_pass 131 = .ok (.iload 4, 2) := by decide +kernel
theorem dX2_pass_133 : decode cX2_pass 133 = .ok (.iload 5, 2) := by decide +kernel
theorem dX2_pass_135 : decode cX2_pass 135 = .ok (.ifCond .ne 7, 3) := by decide +kernel
theorem dX2_pass_138 : decode cX2_pass 138 = .ok (.iconst 3, 1) := by decide +kernel
theorem dX2_pass_139 : decode cX2_pass 139 = .ok (.goto 4, 3) := by decide +kernel
theorem dX2_pass_142 : decode cX2_pass 142 = .ok (.iconst 1, 1) := by decide +kernel
theorem dX2_pass_143 : decode cX2_pass 143 = .ok (.iadd, 1) := by decide +kernel
theorem dX2_pass_144 : decode cX2_pass 144 = .ok (.istore 4, 2) := by decide +kernel
theorem dX2_pass_146 : decode cX2_pass 146 = .ok (.goto (-92), 3) := by decide +kernel
theorem dX2_pass_149 : decode cX2_pass 149 = .ok (.iconst 0, 1) := by decide +kernel
theorem dX2_pass_150 : decode cX2_pass 150 = .ok (.ireturn, 1) := by decide +kernel
set_option maxRecDepth 20000 in
theorem ggX2_actOn_X1_panFact : GoodIn wsX2_actOn wsX1_panFact := goodIn_r _ [9, 10, 11, 12, 13, 83, 84, 85, 86, 87, 88, 89, 90, 91, 92, 93, 94] (by decide +kernel) (by decide +kernel)
set_option maxRecDepth 20000 in
theorem gX2_actOn_X1_panFact : GoodIn wsX2_actOn (wsV RX2 63 RX1 yX1_panFact wsX1_panFact) := goodIn_app (goodIn_of _ (by decide +kernel)) ggX2_actOn_X1_panFact
set_option maxRecDepth 20000 in
theorem ggX2_actOn_X1_beliefOf : GoodIn wsX2_actOn wsX1_beliefOf := goodIn_r _ [17, 18, 19, 20, 21, 83, 84, 85, 86, 87, 88, 89, 90, 91, 92, 93, 94] (by decide +kernel) (by decide +kernel)
set_option maxRecDepth 20000 in
theorem gX2_actOn_X1_beliefOf : GoodIn wsX2_actOn (wsV RX2 66 RX1 yX1_beliefOf wsX1_beliefOf) := goodIn_app (goodIn_of _ (by decide +kernel)) ggX2_actOn_X1_beliefOf
set_option maxRecDepth 20000 in
theorem ggX2_actOn_X1_act : GoodIn wsX2_actOn wsX1_act := goodIn_r _ [25, 12, 11, 10, 26, 27, 28, 29, 30, 31, 32, 13, 33, 34, 35, 36, 8, 37, 38, 39, 20, 40, 41, 42, 43, 44, 45, 46, 47, 48, 19, 21, 49, 50, 51, 52, 53, 54, 55, 56, 57, 18, 58, 59, 60, 61, 62, 63, 64, 65, 66, 67, 68, 69, 70, 71, 72, 73, 74, 75, 76, 83, 84, 85, 86, 87, 88, 89, 90, 91, 92, 93, 94] (by decide +kernel) (by decide +kernel)
set_option maxRecDepth 20000 in
theorem gX2_actOn_X1_act : GoodIn wsX2_actOn (wsV RX2 69 RX1 yX1_act wsX1_act) := goodIn_app (goodIn_of _ (by decide +kernel)) ggX2_actOn_X1_act
theorem dX2_actOn_0 : decode cX2_actOn 0 = .ok (.aload_n 1, 1) := by decide +kernel
theorem dX2_actOn_1 : decode cX2_actOn 1 = .ok (.iconst 0, 1) := by decide +kernel
theorem dX2_actOn_2 : decode cX2_actOn 2 = .ok (.invokevirtual 63, 3) := by decide +kernel
theorem dX2_actOn_5 : decode cX2_actOn 5 = .ok (.istore 5, 2) := by decide +kernel
theorem dX2_actOn_7 : decode cX2_actOn 7 = .ok (.aload_n 1, 1) := by decide +kernel
theorem dX2_actOn_8 : decode cX2_actOn 8 = .ok (.iload 5, 2) := by decide +kernel
theorem dX2_actOn_10 : decode cX2_actOn 10 = .ok (.invokevirtual 66, 3) := by decide +kernel
theorem dX2_actOn_13 : decode cX2_actOn 13 = .ok (.istore 6, 2) := by decide +kernel
theorem dX2_actOn_15 : decode cX2_actOn 15 = .ok (.aload_n 1, 1) := by decide +kernel
theorem dX2_actOn_16 : decode cX2_actOn 16 = .ok (.iload_n 2, 1) := by decide +kernel
theorem dX2_actOn_17 : decode cX2_actOn 17 = .ok (.iload_n 3, 1) := by decide +kernel
theorem dX2_actOn_18 : decode cX2_actOn 18 = .ok (.iload 4, 2) := by decide +kernel
theorem dX2_actOn_20 : decode cX2_actOn 20 = .ok (.invokevirtual 69, 3) := by decide +kernel
theorem dX2_actOn_23 : decode cX2_actOn 23 = .ok (.aload_n 0, 1) := by decide +kernel
theorem dX2_actOn_24 : decode cX2_actOn 24 = .ok (.getfield 24, 3) := by decide +kernel
theorem dX2_actOn_27 : decode cX2_actOn 27 = .ok (.bipush (-6), 2) := by decide +kernel
theorem dX2_actOn_29 : decode cX2_actOn 29 = .ok (.if_icmp .ne 28, 3) := by decide +kernel
theorem dX2_actOn_32 : decode cX2_actOn 32 = .ok (.aload_n 1, 1) := by decide +kernel
theorem dX2_actOn_33 : decode cX2_actOn 33 = .ok (.iload 5, 2) := by decide +kernel
theorem dX2_actOn_35 : decode cX2_actOn 35 = .ok (.invokevirtual 66, 3) := by decide +kernel
theorem dX2_actOn_38 : decode cX2_actOn 38 = .ok (.iload 6, 2) := by decide +kernel
theorem dX2_actOn_40 : decode cX2_actOn 40 = .ok (.if_icmp .eq 17, 3) := by decide +kernel
theorem dX2_actOn_43 : decode cX2_actOn 43 = .ok (.aload_n 0, 1) := by decide +kernel
theorem dX2_actOn_44 : decode cX2_actOn 44 = .ok (.aload_n 0, 1) := by decide +kernel
theorem dX2_actOn_45 : decode cX2_actOn 45 = .ok (.getfield 9, 3) := by decide +kernel
theorem dX2_actOn_48 : decode cX2_actOn 48 = .ok (.putfield 24, 3) := by decide +kernel
theorem dX2_actOn_51 : decode cX2_actOn 51 = .ok (.aload_n 0, 1) := by decide +kernel
theorem dX2_actOn_52 : decode cX2_actOn 52 = .ok (.iload 5, 2) := by decide +kernel
theorem dX2_actOn_54 : decode cX2_actOn 54 = .ok (.putfield 27, 3) := by decide +kernel
theorem dX2_actOn_57 : decode cX2_actOn 57 = .ok (.iload_n 2, 1) := by decide +kernel
theorem dX2_actOn_58 : decode cX2_actOn 58 = .ok (.iconst 2, 1) := by decide +kernel
theorem dX2_actOn_59 : decode cX2_actOn 59 = .ok (.if_icmp .ne 13, 3) := by decide +kernel
theorem dX2_actOn_62 : decode cX2_actOn 62 = .ok (.aload_n 0, 1) := by decide +kernel
theorem dX2_actOn_63 : decode cX2_actOn 63 = .ok (.dup, 1) := by decide +kernel
theorem dX2_actOn_64 : decode cX2_actOn 64 = .ok (.getfield 15, 3) := by decide +kernel
theorem dX2_actOn_67 : decode cX2_actOn 67 = .ok (.iconst 1, 1) := by decide +kernel
theorem dX2_actOn_68 : decode cX2_actOn 68 = .ok (.iadd, 1) := by decide +kernel
theorem dX2_actOn_69 : decode cX2_actOn 69 = .ok (.putfield 15, 3) := by decide +kernel
theorem dX2_actOn_72 : decode cX2_actOn 72 = .ok (.aload_n 0, 1) := by decide +kernel
theorem dX2_actOn_73 : decode cX2_actOn 73 = .ok (.dup, 1) := by decide +kernel
theorem dX2_actOn_74 : decode cX2_actOn 74 = .ok (.getfield 9, 3) := by decide +kernel
theorem dX2_actOn_77 : decode cX2_actOn 77 = .ok (.iconst 1, 1) := by decide +kernel
theorem dX2_actOn_78 : decode cX2_actOn 78 = .ok (.iadd, 1) := by decide +kernel
theorem dX2_actOn_79 : decode cX2_actOn 79 = .ok (.putfield 9, 3) := by decide +kernel
theorem dX2_actOn_82 : decode cX2_actOn 82 = .ok (.return_, 1) := by decide +kernel
theorem dX3_init_0 : decode cX3_init 0 = .ok (.aload_n 0, 1) := by decide +kernel
theorem dX3_init_1 : decode cX3_init 1 = .ok (.invokespecial 3, 3) := by decide +kernel
theorem dX3_init_4 : decode cX3_init 4 = .ok (.aload_n 0, 1) := by decide +kernel
theorem dX3_init_5 : decode cX3_init 5 = .ok (.bipush 60, 2) := by decide +kernel
theorem dX3_init_7 : decode cX3_init 7 = .ok (.newarray .int, 2) := by decide +kernel
theorem dX3_init_9 : decode cX3_init 9 = .ok (.putfield 9, 3) := by decide +kernel
theorem dX3_init_12 : decode cX3_init 12 = .ok (.return_, 1) := by decide +kernel
theorem dX3_size_0 : decode cX3_size 0 = .ok (.aload_n 0, 1) := by decide +kernel
theorem dX3_size_1 : decode cX3_size 1 = .ok (.getfield 15, 3) := by decide +kernel
theorem dX3_size_4 : decode cX3_size 4 = .ok (.ireturn, 1) := by decide +kernel
set_option maxRecDepth 20000 in
theorem ggX3_add_X6_within : GoodIn wsX3_add wsX6_within := goodIn_r _ [5] (by decide +kernel) (by decide +kernel)
set_option maxRecDepth 20000 in
theorem gX3_add_X6_within_n19 : GoodIn wsX3_add (wsX6_within) := ggX3_add_X6_within
theorem dX3_add_0 : decode cX3_add 0 = .ok (.aload_n 0, 1) := by decide +kernel
theorem dX3_add_1 : decode cX3_add 1 = .ok (.getfield 15, 3) := by decide +kernel
theorem dX3_add_4 : decode cX3_add 4 = .ok (.iconst 0, 1) := by decide +kernel
theorem dX3_add_5 : decode cX3_add 5 = .ok (.bipush 59, 2) := by decide +kernel
theorem dX3_add_7 : decode cX3_add 7 = .ok (.invokestatic 19, 3) := by decide +kernel
theorem dX3_add_10 : decode cX3_add 10 = .ok (.ifCond .ne 5, 3) := by decide +kernel
theorem dX3_add_13 : decode cX3_add 13 = .ok (.iconst 0, 1) := by decide +kernel
theorem dX3_add_14 : decode cX3_add 14 = .ok (.ireturn, 1) := by decide +kernel
theorem dX3_add_15 : decode cX3_add 15 = .ok (.aload_n 0, 1) := by decide +kernel
theorem dX3_add_16 : decode cX3_add 16 = .ok (.getfield 9, 3) := by decide +kernel
theorem dX3_add_19 : decode cX3_add 19 = .ok (.aload_n 0, 1) := by decide +kernel
theorem dX3_add_20 : decode cX3_add 20 = .ok (.getfield 15, 3) := by decide +kernel
theorem dX3_add_23 : decode cX3_add 23 = .ok (.iload_n 1, 1) := by decide +kernel
theorem dX3_add_24 : decode cX3_add 24 = .ok (.iastore, 1) := by decide +kernel
theorem dX3_add_25 : decode cX3_add 25 = .ok (.aload_n 0, 1) := by decide +kernel
theorem dX3_add_26 : decode cX3_add 26 = .ok (.dup, 1) := by decide +kernel
theorem dX3_add_27 : decode cX3_add 27 = .ok (.getfield 15, 3) := by decide +kernel
theorem dX3_add_30 : decode cX3_add 30 = .ok (.iconst 1, 1) := by decide +kernel
theorem dX3_add_31 : decode cX3_add 31 = .ok (.iadd, 1) := by decide +kernel
theorem dX3_add_32 : decode cX3_add 32 = .ok (.putfield 15, 3) := by decide +kernel
theorem dX3_add_35 : decode cX3_add 35 = .ok (.iconst 1, 1) := by decide +kernel
theorem dX3_add_36 : decode cX3_add 36 = .ok (.ireturn, 1) := by decide +kernel
theorem dX3_clear_0 : decode cX3_clear 0 = .ok (.aload_n 0, 1) := by decide +kernel
theorem dX3_clear_1 : decode cX3_clear 1 = .ok (.iconst 0, 1) := by decide +kernel
theorem dX3_clear_2 : decode cX3_clear 2 = .ok (.putfield 15, 3) := by decide +kernel
theorem dX3_clear_5 : decode cX3_clear 5 = .ok (.return_, 1) := by decide +kernel
set_option maxRecDepth 20000 in
theorem ggX3_signAt_X6_within : GoodIn wsX3_signAt wsX6_within := goodIn_r _ [5] (by decide +kernel) (by decide +kernel)
set_option maxRecDepth 20000 in
theorem gX3_signAt_X6_within_n19 : GoodIn wsX3_signAt (wsX6_within) := ggX3_signAt_X6_within
theorem dX3_signAt_0 : decode cX3_signAt 0 = .ok (.iload_n 1, 1) := by decide +kernel
theorem dX3_signAt_1 : decode cX3_signAt 1 = .ok (.iconst 0, 1) := by decide +kernel
theorem dX3_signAt_2 : decode cX3_signAt 2 = .ok (.bipush 59, 2) := by decide +kernel
theorem dX3_signAt_4 : decode cX3_signAt 4 = .ok (.invokestatic 19, 3) := by decide +kernel
theorem dX3_signAt_7 : decode cX3_signAt 7 = .ok (.ifCond .eq 20, 3) := by decide +kernel
theorem dX3_signAt_10 : decode cX3_signAt 10 = .ok (.iload_n 1, 1) := by decide +kernel
theorem dX3_signAt_11 : decode cX3_signAt 11 = .ok (.aload_n 0, 1) := by decide +kernel
theorem dX3_signAt_12 : decode cX3_signAt 12 = .ok (.getfield 15, 3) := by decide +kernel
theorem dX3_signAt_15 : decode cX3_signAt 15 = .ok (.if_icmp .ge 12, 3) := by decide +kernel
theorem dX3_signAt_18 : decode cX3_signAt 18 = .ok (.aload_n 0, 1) := by decide +kernel
theorem dX3_signAt_19 : decode cX3_signAt 19 = .ok (.getfield 9, 3) := by decide +kernel
theorem dX3_signAt_22 : decode cX3_signAt 22 = .ok (.iload_n 1, 1) := by decide +kernel
theorem dX3_signAt_23 : decode cX3_signAt 23 = .ok (.iaload, 1) := by decide +kernel
theorem dX3_signAt_24 : decode cX3_signAt 24 = .ok (.goto 5, 3) := by decide +kernel
theorem dX3_signAt_27 : decode cX3_signAt 27 = .ok (.bipush (-6), 2) := by decide +kernel
theorem dX3_signAt_29 : decode cX3_signAt 29 = .ok (.ireturn, 1) := by decide +kernel
set_option maxRecDepth 20000 in
theorem ggX3_digitAt_X3_signAt : GoodIn wsX3_digitAt wsX3_signAt := goodIn_r _ [5, 6, 7, 8, 9, 10, 11, 12] (by decide +kernel) (by decide +kernel)
set_option maxRecDepth 20000 in
theorem gX3_digitAt_X3_signAt : GoodIn wsX3_digitAt (wsV RX3 23 RX3 yX3_signAt wsX3_signAt) := goodIn_app (goodIn_of _ (by decide +kernel)) ggX3_digitAt_X3_signAt
theorem dX3_digitAt_0 : decode cX3_digitAt 0 = .ok (.aload_n 0, 1) := by decide +kernel
theorem dX3_digitAt_1 : decode cX3_digitAt 1 = .ok (.iload_n 1, 1) := by decide +kernel
theorem dX3_digitAt_2 : decode cX3_digitAt 2 = .ok (.invokevirtual 23, 3) := by decide +kernel
theorem dX3_digitAt_5 : decode cX3_digitAt 5 = .ok (.bipush 48, 2) := by decide +kernel
theorem dX3_digitAt_7 : decode cX3_digitAt 7 = .ok (.isub, 1) := by decide +kernel
theorem dX3_digitAt_8 : decode cX3_digitAt 8 = .ok (.ireturn, 1) := by decide +kernel
set_option maxRecDepth 20000 in
theorem ggX3_kindAt_X3_signAt : GoodIn wsX3_kindAt wsX3_signAt := goodIn_r _ [5, 6, 7, 8, 9, 10, 15, 16] (by decide +kernel) (by decide +kernel)
set_option maxRecDepth 20000 in
theorem gX3_kindAt_X3_signAt : GoodIn wsX3_kindAt (wsV RX3 23 RX3 yX3_signAt wsX3_signAt) := goodIn_app (goodIn_of _ (by decide +kernel)) ggX3_kindAt_X3_signAt
set_option maxRecDepth 20000 in
theorem ggX3_kindAt_X3_placeAt : GoodIn wsX3_kindAt wsX3_placeAt := goodIn_r _ [14, 1, 2, 3, 4, 5, 6, 7, 8, 9, 10, 15, 16] (by decide +kernel) (by decide +kernel)
set_option maxRecDepth 20000 in
theorem gX3_kindAt_X3_placeAt : GoodIn wsX3_kindAt (wsV RX3 27 RX3 yX3_placeAt wsX3_placeAt) := goodIn_app (goodIn_of _ (by decide +kernel)) ggX3_kindAt_X3_placeAt
theorem dX3_kindAt_0 : decode cX3_kindAt 0 = .ok (.aload_n 0, 1) := by decide +kernel
theorem dX3_kindAt_1 : decode cX3_kindAt 1 = .ok (.iload_n 1, 1) := by decide +kernel
theorem dX3_kindAt_2 : decode cX3_kindAt 2 = .ok (.invokevirtual 23, 3) := by decide +kernel
theorem dX3_kindAt_5 : decode cX3_kindAt 5 = .ok (.lookupswitch 51 #[(42, 45), (46, 49), (61, 43), (126, 47)], 43) := by decide +kernel
theorem dX3_kindAt_48 : decode cX3_kindAt 48 = .ok (.iconst 0, 1) := by decide +kernel
theorem dX3_kindAt_49 : decode cX3_kindAt 49 = .ok (.ireturn, 1) := by decide +kernel
theorem dX3_kindAt_50 : decode cX3_kindAt 50 = .ok (.iconst 2, 1) := by decide +kernel
theorem dX3_kindAt_51 : decode cX3_kindAt 51 = .ok (.ireturn, 1) := by decide +kernel
theorem dX3_kindAt_52 : decode cX3_kindAt 52 = .ok (.iconst 3, 1) := by decide +kernel
theorem dX3_kindAt_53 : decode cX3_kindAt 53 = .ok (.ireturn, 1) := by decide +kernel
theorem dX3_kindAt_54 : decode cX3_kindAt 54 = .ok (.iconst 4, 1) := by decide +kernel
theorem dX3_kindAt_55 : decode cX3_kindAt 55 = .ok (.ireturn, 1) := by decide +kernel
theorem dX3_kindAt_56 : decode cX3_kindAt 56 = .ok (.aload_n 0, 1) := by decide +kernel
theorem dX3_kindAt_57 : decode cX3_kindAt 57 = .ok (.iload_n 1, 1) := by decide +kernel
theorem dX3_kindAt_58 : decode cX3_kindAt 58 = .ok (.invokevirtual 27, 3) := by decide +kernel
theorem dX3_kindAt_61 : decode cX3_kindAt 61 = .ok (.bipush (-6), 2) := by decide +kernel
theorem dX3_kindAt_63 : decode cX3_kindAt 63 = .ok (.if_icmp .ne 8, 3) := by decide +kernel
theorem dX3_kindAt_66 : decode cX3_kindAt 66 = .ok (.bipush (-6), 2) := by decide +kernel
theorem dX3_kindAt_68 : decode cX3_kindAt 68 = .ok (.goto 4, 3) := by decide +kernel
theorem dX3_kindAt_71 : decode cX3_kindAt 71 = .ok (.iconst 1, 1) := by decide +kernel
theorem dX3_kindAt_72 : decode cX3_kindAt 72 = .ok (.ireturn, 1) := by decide +kernel
set_option maxRecDepth 20000 in
theorem ggX3_placeAt_X3_signAt : GoodIn wsX3_placeAt wsX3_signAt := goodIn_r _ [5, 6, 7, 8, 9, 10, 11, 12] (by decide +kernel) (by decide +kernel)
set_option maxRecDepth 20000 in
theorem gX3_placeAt_X3_signAt : GoodIn wsX3_placeAt (wsV RX3 23 RX3 yX3_signAt wsX3_signAt) := goodIn_app (goodIn_of _ (by decide +kernel)) ggX3_placeAt_X3_signAt
set_option maxRecDepth 20000 in
theorem ggX3_placeAt_X6_within : GoodIn wsX3_placeAt wsX6_within := goodIn_r _ [10] (by decide +kernel) (by decide +kernel)
set_option maxRecDepth 20000 in
theorem gX3_placeAt_X6_within_n19 : GoodIn wsX3_placeAt (wsX6_within) := ggX3_placeAt_X6_within
theorem dX3_placeAt_0 : decode cX3_placeAt 0 = .ok (.aload_n 0, 1) := by decide +kernel
theorem dX3_placeAt_1 : decode cX3_placeAt 1 = .ok (.iload_n 1, 1) := by decide +kernel
theorem dX3_placeAt_2 : decode cX3_placeAt 2 = .ok (.invokevirtual 23, 3) := by decide +kernel
theorem dX3_placeAt_5 : decode cX3_placeAt 5 = .ok (.istore_n 2, 1) := by decide +kernel
theorem dX3_placeAt_6 : decode cX3_placeAt 6 = .ok (.iload_n 2, 1) := by decide +kernel
theorem dX3_placeAt_7 : decode cX3_placeAt 7 = .ok (.bipush 65, 2) := by decide +kernel
theorem dX3_placeAt_9 : decode cX3_placeAt 9 = .ok (.bipush 74, 2) := by decide +kernel
theorem dX3_placeAt_11 : decode cX3_placeAt 11 = .ok (.invokestatic 19, 3) := by decide +kernel
theorem dX3_placeAt_14 : decode cX3_placeAt 14 = .ok (.ifCond .eq 8, 3) := by decide +kernel
theorem dX3_placeAt_17 : decode cX3_placeAt 17 = .ok (.iload_n 2, 1) := by decide +kernel
theorem dX3_placeAt_18 : decode cX3_placeAt 18 = .ok (.bipush 65, 2) := by decide +kernel
theorem dX3_placeAt_20 : decode cX3_placeAt 20 = .ok (.isub, 1) := by decide +kernel
theorem dX3_placeAt_21 : decode cX3_placeAt 21 = .ok (.ireturn, 1) := by decide +kernel
theorem dX3_placeAt_22 : decode cX3_placeAt 22 = .ok (.iload_n 2, 1) := by decide +kernel
theorem dX3_placeAt_23 : decode cX3_placeAt 23 = .ok (.bipush 107, 2) := by decide +kernel
theorem dX3_placeAt_25 : decode cX3_placeAt 25 = .ok (.if_icmp .ne 8, 3) := by decide +kernel
theorem dX3_placeAt_28 : decode cX3_placeAt 28 = .ok (.bipush 10, 2) := by decide +kernel
theorem dX3_placeAt_30 : decode cX3_placeAt 30 = .ok (.goto 5, 3) := by decide +kernel
theorem dX3_placeAt_33 : decode cX3_placeAt 33 = .ok (.bipush (-6), 2) := by decide +kernel
theorem dX3_placeAt_35 : decode cX3_placeAt 35 = .ok (.ireturn, 1) := by decide +kernel
set_option maxRecDepth 20000 in
theorem ggX3_whatAt_X3_kindAt : GoodIn wsX3_whatAt wsX3_kindAt := goodIn_r _ [5, 6, 7, 8, 4, 9, 10, 11, 12, 13, 14, 15, 16, 17, 18, 23, 24] (by decide +kernel) (by decide +kernel)
set_option maxRecDepth 20000 in
theorem gX3_whatAt_X3_kindAt : GoodIn wsX3_whatAt (wsV RX3 30 RX3 yX3_kindAt wsX3_kindAt) := goodIn_app (goodIn_of _ (by decide +kernel)) ggX3_whatAt_X3_kindAt
set_option maxRecDepth 20000 in
theorem ggX3_whatAt_X3_digitAt : GoodIn wsX3_whatAt wsX3_digitAt := goodIn_r _ [22, 6, 7, 8, 4, 9, 10, 11, 12, 13, 14, 23, 24] (by decide +kernel) (by decide +kernel)
set_option maxRecDepth 20000 in
theorem gX3_whatAt_X3_digitAt : GoodIn wsX3_whatAt (wsV RX3 33 RX3 yX3_digitAt wsX3_digitAt) := goodIn_app (goodIn_of _ (by decide +kernel)) ggX3_whatAt_X3_digitAt
set_option maxRecDepth 20000 in
theorem ggX3_whatAt_X3_placeAt : GoodIn wsX3_whatAt wsX3_placeAt := goodIn_r _ [18, 6, 7, 8, 4, 9, 10, 11, 12, 13, 14, 23, 24] (by decide +kernel) (by decide +kernel)
set_option maxRecDepth 20000 in
theorem gX3_whatAt_X3_placeAt : GoodIn wsX3_whatAt (wsV RX3 27 RX3 yX3_placeAt wsX3_placeAt) := goodIn_app (goodIn_of _ (by decide +kernel)) ggX3_whatAt_X3_placeAt
theorem dX3_whatAt_0 : decode cX3_whatAt 0 = .ok (.aload_n 0, 1) := by decide +kernel
theorem dX3_whatAt_1 : decode cX3_whatAt 1 = .ok (.iload_n 1, 1) := by decide +kernel
theorem dX3_whatAt_2 : decode cX3_whatAt 2 = .ok (.invokevirtual 30, 3) := by decide +kernel
theorem dX3_whatAt_5 : decode cX3_whatAt 5 = .ok (.ifCond .ne 13, 3) := by decide +kernel
theorem dX3_whatAt_8 : decode cX3_whatAt 8 = .ok (.aload_n 0, 1) := by decide +kernel
theorem dX3_whatAt_9 : decode cX3_whatAt 9 = .ok (.iload_n 1, 1) := by decide +kernel
theorem dX3_whatAt_10 : decode cX3_whatAt 10 = .ok (.iconst 1, 1) := by decide +kernel
theorem dX3_whatAt_11 : decode cX3_whatAt 11 = .ok (.iadd, 1) := by decide +kernel
theorem dX3_whatAt_12 : decode cX3_whatAt 12 = .ok (.invokevirtual 33, 3) := by decide +kernel
theorem dX3_whatAt_15 : decode cX3_whatAt 15 = .ok (.goto 8, 3) := by decide +kernel
theorem dX3_whatAt_18 : decode cX3_whatAt 18 = .ok (.aload_n 0, 1) := by decide +kernel
theorem dX3_whatAt_19 : decode cX3_whatAt 19 = .ok (.iload_n 1, 1) := by decide +kernel
theorem dX3_whatAt_20 : decode cX3_whatAt 20 = .ok (.invokevirtual 27, 3) := by decide +kernel
theorem dX3_whatAt_23 : decode cX3_whatAt 23 = .ok (.ireturn, 1) := by decide +kernel
set_option maxRecDepth 20000 in
theorem ggX3_faultPlace_X3_kindAt : GoodIn wsX3_faultPlace wsX3_kindAt := goodIn_r _ [6, 7, 8, 9, 5, 10, 1, 11, 12, 13, 14, 15, 16, 17, 18, 23, 24] (by decide +kernel) (by decide +kernel)
set_option maxRecDepth 20000 in
theorem gX3_faultPlace_X3_kindAt : GoodIn wsX3_faultPlace (wsV RX3 30 RX3 yX3_kindAt wsX3_kindAt) := goodIn_app (goodIn_of _ (by decide +kernel)) ggX3_faultPlace_X3_kindAt
set_option maxRecDepth 20000 in
theorem ggX3_faultPlace_X3_digitAt : GoodIn wsX3_faultPlace wsX3_digitAt := goodIn_r _ [22, 7, 8, 9, 5, 10, 1, 11, 12, 13, 14, 23, 24] (by decide +kernel) (by decide +kernel)
set_option maxRecDepth 20000 in
theorem gX3_faultPlace_X3_digitAt : GoodIn wsX3_faultPlace (wsV RX3 33 RX3 yX3_digitAt wsX3_digitAt) := goodIn_app (goodIn_of _ (by decide +kernel)) ggX3_faultPlace_X3_digitAt
set_option maxRecDepth 20000 in
theorem ggX3_faultPlace_X6_within : GoodIn wsX3_faultPlace wsX6_within := goodIn_r _ [14] (by decide +kernel) (by decide +kernel)
set_option maxRecDepth 20000 in
theorem gX3_faultPlace_X6_within_n19 : GoodIn wsX3_faultPlace (wsX6_within) := ggX3_faultPlace_X6_within
theorem dX3_faultPlace_0 : decode cX3_faultPlace 0 = .ok (.iconst 0, 1) := by decide +kernel
theorem dX3_faultPlace_1 : decode cX3_faultPlace 1 = .ok (.istore_n 1, 1) := by decide +kernel
theorem dX3_faultPlace_2 : decode cX3_faultPlace 2 = .ok (.iload_n 1, 1) := by decide +kernel
theorem dX3_faultPlace_3 : decode cX3_faultPlace 3 = .ok (.aload_n 0, 1) := by decide +kernel
theorem dX3_faultPlace_4 : decode cX3_faultPlace 4 = .ok (.getfield 15, 3) := by decide +kernel
theorem dX3_faultPlace_7 : decode cX3_faultPlace 7 = .ok (.if_icmp .ge 80, 3) := by decide +kernel
theorem dX3_faultPlace_10 : decode cX3_faultPlace 10 = .ok (.aload_n 0, 1) := by decide +kernel
theorem dX3_faultPlace_11 : decode cX3_faultPlace 11 = .ok (.iload_n 1, 1) := by decide +kernel
theorem dX3_faultPlace_12 : decode cX3_faultPlace 12 = .ok (.invokevirtual 30, 3) := by decide +kernel
theorem dX3_faultPlace_15 : decode cX3_faultPlace 15 = .ok (.istore_n 2, 1) := by decide +kernel
theorem dX3_faultPlace_16 : decode cX3_faultPlace 16 = .ok (.iload_n 2, 1) := by decide +kernel
theorem dX3_faultPlace_17 : decode cX3_faultPlace 17 = .ok (.bipush (-6), 2) := by decide +kernel
theorem dX3_faultPlace_19 : decode cX3_faultPlace 19 = .ok (.if_icmp .ne 5, 3) := by decide +kernel
theorem dX3_faultPlace_22 : decode cX3_faultPlace 22 = .ok (.iload_n 1, 1) := by decide +kernel
theorem dX3_faultPlace_23 : decode cX3_faultPlace 23 = .ok (.ireturn, 1) := by decide +kernel
theorem dX3_faultPlace_24 : decode cX3_faultPlace 24 = .ok (.iload_n 2, 1) := by decide +kernel
theorem dX3_faultPlace_25 : decode cX3_faultPlace 25 = .ok (.ifCond .ne 23, 3) := by decide +kernel
theorem dX3_faultPlace_28 : decode cX3_faultPlace 28 = .ok (.aload_n 0, 1) := by decide +kernel
theorem dX3_faultPlace_29 : decode cX3_faultPlace 29 = .ok (.iload_n 1, 1) := by decide +kernel
theorem dX3_faultPlace_30 : decode cX3_faultPlace 30 = .ok (.iconst 1, 1) := by decide +kernel
theorem dX3_faultPlace_31 : decode cX3_faultPlace 31 = .ok (.iadd, 1) := by decide +kernel
theorem dX3_faultPlace_32 : decode cX3_faultPlace 32 = .ok (.invokevirtual 33, 3) := by decide +kernel
theorem dX3_faultPlace_35 : decode cX3_faultPlace 35 = .ok (.iconst 0, 1) := by decide +kernel
theorem dX3_faultPlace_36 : decode cX3_faultPlace 36 = .ok (.bipush 9, 2) := by decide +kernel
theorem dX3_faultPlace_38 : decode cX3_faultPlace 38 = .ok (.invokestatic 19, 3) := by decide +kernel
theorem dX3_faultPlace_41 : decode cX3_faultPlace 41 = .ok (.ifCond .ne 7, 3) := by decide +kernel
theorem dX3_faultPlace_44 : decode cX3_faultPlace 44 = .ok (.iload_n 1, 1) := by decide +kernel
theorem dX3_faultPlace_45 : decode cX3_faultPlace 45 = .ok (.iconst 1, 1) := by decide +kernel
theorem dX3_faultPlace_46 : decode cX3_faultPlace 46 = .ok (.iadd, 1) := by decide +kernel
theorem dX3_faultPlace_47 : decode cX3_faultPlace 47 = .ok (.ireturn, 1) := by decide +kernel
theorem dX3_faultPlace_48 : decode cX3_faultPlace 48 = .ok (.iload_n 2, 1) := by decide +kernel
theorem dX3_faultPlace_49 : decode cX3_faultPlace 49 = .ok (.ifCond .ne 23, 3) := by decide +kernel
theorem dX3_faultPlace_52 : decode cX3_faultPlace 52 = .ok (.aload_n 0, 1) := by decide +kernel
theorem dX3_faultPlace_53 : decode cX3_faultPlace 53 = .ok (.iload_n 1, 1) := by decide +kernel
theorem dX3_faultPlace_54 : decode cX3_faultPlace 54 = .ok (.iconst 2, 1) := by decide +kernel
theorem dX3_faultPlace_55 : decode cX3_faultPlace 55 = .ok (.iadd, 1) := by decide +kernel
theorem dX3_faultPlace_56 : decode cX3_faultPlace 56 = .ok (.invokevirtual 33, 3) := by decide +kernel
theorem dX3_faultPlace_59 : decode cX3_faultPlace 59 = .ok (.iconst 1, 1) := by decide +kernel
theorem dX3_faultPlace_60 : decode cX3_faultPlace 60 = .ok (.bipush 9, 2) := by decide +kernel
theorem dX3_faultPlace_62 : decode cX3_faultPlace 62 = .ok (.invokestatic 19, 3) := by decide +kernel
theorem dX3_faultPlace_65 : decode cX3_faultPlace 65 = .ok (.ifCond .ne 7, 3) := by decide +kernel
theorem dX3_faultPlace_68 : decode cX3_faultPlace 68 = .ok (.iload_n 1, 1) := by decide +kernel
theorem dX3_faultPlace_69 : decode cX3_faultPlace 69 = .ok (.iconst 2, 1) := by decide +kernel
theorem dX3_faultPlace_70 : decode cX3_faultPlace 70 = .ok (.iadd, 1) := by decide +kernel
theorem dX3_faultPlace_71 : decode cX3_faultPlace 71 = .ok (.ireturn, 1) := by decide +kernel
theorem dX3_faultPlace_72 : decode cX3_faultPlace 72 = .ok (.iload_n 1, 1) := by decide +kernel
theorem dX3_faultPlace_73 : decode cX3_faultPlace 73 = .ok (.iload_n 2, 1) := by decide +kernel
theorem dX3_faultPlace_74 : decode cX3_faultPlace 74 = .ok (.ifCond .ne 7, 3) := by decide +kernel
theorem dX3_faultPlace_77 : decode cX3_faultPlace 77 = .ok (.iconst 3, 1) := by decide +kernel
theorem dX3_faultPlace_78 : decode cX3_faultPlace 78 = .ok (.goto 4, 3) := by decide +kernel
theorem dX3_faultPlace_81 : decode cX3_faultPlace 81 = .ok (.iconst 1, 1) := by decide +kernel
theorem dX3_faultPlace_82 : decode cX3_faultPlace 82 = .ok (.iadd, 1) := by decide +kernel
theorem dX3_faultPlace_83 : decode cX3_faultPlace 83 = .ok (.istore_n 1, 1) := by decide +kernel
theorem dX3_faultPlace_84 : decode cX3_faultPlace 84 = .ok (.goto (-82), 3) := by decide +kernel
theorem dX3_faultPlace_87 : decode cX3_faultPlace 87 = .ok (.bipush (-6), 2) := by decide +kernel
theorem dX3_faultPlace_89 : decode cX3_faultPlace 89 = .ok (.ireturn, 1) := by decide +kernel
theorem dX4_init_0 : decode cX4_init 0 = .ok (.aload_n 0, 1) := by decide +kernel
theorem dX4_init_1 : decode cX4_init 1 = .ok (.invokespecial 3, 3) := by decide +kernel
theorem dX4_init_4 : decode cX4_init 4 = .ok (.aload_n 0, 1) := by decide +kernel
theorem dX4_init_5 : decode cX4_init 5 = .ok (.sipush 410, 3) := by decide +kernel
theorem dX4_init_8 : decode cX4_init 8 = .ok (.newarray .int, 2) := by decide +kernel
theorem dX4_init_10 : decode cX4_init 10 = .ok (.putfield 9, 3) := by decide +kernel
theorem dX4_init_13 : decode cX4_init 13 = .ok (.aload_n 0, 1) := by decide +kernel
theorem dX4_init_14 : decode cX4_init 14 = .ok (.bipush 50, 2) := by decide +kernel
theorem dX4_init_16 : decode cX4_init 16 = .ok (.newarray .int, 2) := by decide +kernel
theorem dX4_init_18 : decode cX4_init 18 = .ok (.putfield 15, 3) := by decide +kernel
theorem dX4_init_21 : decode cX4_init 21 = .ok (.aload_n 0, 1) := by decide +kernel
theorem dX4_init_22 : decode cX4_init 22 = .ok (.bipush 10, 2) := by decide +kernel
theorem dX4_init_24 : decode cX4_init 24 = .ok (.newarray .int, 2) := by decide +kernel
theorem dX4_init_26 : decode cX4_init 26 = .ok (.putfield 18, 3) := by decide +kernel
theorem dX4_init_29 : decode cX4_init 29 = .ok (.return_, 1) := by decide +kernel
set_option maxRecDepth 20000 in
theorem ggX4_gather_X4_fadeAll : GoodIn wsX4_gather wsX4_fadeAll := goodIn_r _ [7, 8, 9, 10, 11, 12, 13, 14, 15, 16, 17, 43, 44, 45, 46, 47, 48, 49, 50, 51, 52, 53, 54, 55, 56, 57, 58] (by decide +kernel) (by decide +kernel)
set_option maxRecDepth 20000 in
theorem gX4_gather_X4_fadeAll : GoodIn wsX4_gather (wsV RX4 21 RX4 yX4_fadeAll wsX4_fadeAll) := goodIn_app (goodIn_of _ (by decide +kernel)) ggX4_gather_X4_fadeAll
set_option maxRecDepth 20000 in
theorem ggX4_gather_X4_isSo : GoodIn wsX4_gather wsX4_isSo := goodIn_r _ [21, 22, 23, 24, 12, 25, 26, 27, 28, 29, 30, 31, 32, 16, 33, 34, 35, 36, 6, 37, 8, 15, 17, 38, 39, 40, 41, 42, 47, 48, 49, 50, 51, 52, 53, 54, 55, 56, 57, 58, 43, 44, 45, 46] (by decide +kernel) (by decide +kernel)
set_option maxRecDepth 20000 in
theorem gX4_gather_X4_isSo : GoodIn wsX4_gather (wsV RX4 29 RX4 yX4_isSo wsX4_isSo) := goodIn_app (goodIn_of _ (by decide +kernel)) ggX4_gather_X4_isSo
set_option maxRecDepth 20000 in
theorem ggX4_gather_X6_within : GoodIn wsX4_gather wsX6_within := goodIn_r _ [33] (by decide +kernel) (by decide +kernel)
set_option maxRecDepth 20000 in
theorem gX4_gather_X6_within_n33 : GoodIn wsX4_gather (wsX6_within) := ggX4_gather_X6_within
theorem dX4_gather_0 : decode cX4_gather 0 = .ok (.aload_n 0, 1) := by decide +kernel
theorem dX4_gather_1 : decode cX4_gather 1 = .ok (.aload_n 1, 1) := by decide +kernel
theorem dX4_gather_2 : decode cX4_gather 2 = .ok (.invokevirtual 21, 3) := by decide +kernel
theorem dX4_gather_5 : decode cX4_gather 5 = .ok (.aload_n 0, 1) := by decide +kernel
theorem dX4_gather_6 : decode cX4_gather 6 = .ok (.iconst 0, 1) := by decide +kernel
theorem dX4_gather_7 : decode cX4_gather 7 = .ok (.putfield 25, 3) := by decide +kernel
theorem dX4_gather_10 : decode cX4_gather 10 = .ok (.iconst 0, 1) := by decide +kernel
theorem dX4_gather_11 : decode cX4_gather 11 = .ok (.istore_n 2, 1) := by decide +kernel
theorem dX4_gather_12 : decode cX4_gather 12 = .ok (.iload_n 2, 1) := by decide +kernel
theorem dX4_gather_13 : decode cX4_gather 13 = .ok (.bipush 10, 2) := by decide +kernel
theorem dX4_gather_15 : decode cX4_gather 15 = .ok (.if_icmp .ge 70, 3) := by decide +kernel
theorem dX4_gather_18 : decode cX4_gather 18 = .ok (.iconst 1, 1) := by decide +kernel
theorem dX4_gather_19 : decode cX4_gather 19 = .ok (.istore_n 3, 1) := by decide +kernel
theorem dX4_gather_20 : decode cX4_gather 20 = .ok (.iload_n 3, 1) := by decide +kernel
theorem dX4_gather_21 : decode cX4_gather 21 = .ok (.iconst 5, 1) := by decide +kernel
theorem dX4_gather_22 : decode cX4_gather 22 = .ok (.if_icmp .gt 57, 3) := by decide +kernel
theorem dX4_gather_25 : decode cX4_gather 25 = .ok (.aload_n 0, 1) := by decide +kernel
theorem dX4_gather_26 : decode cX4_gather 26 = .ok (.aload_n 1, 1) := by decide +kernel
theorem dX4_gather_27 : decode cX4_gather 27 = .ok (.iload_n 2, 1) := by decide +kernel
theorem dX4_gather_28 : decode cX4_gather 28 = .ok (.iload_n 3, 1) := by decide +kernel
theorem dX4_gather_29 : decode cX4_gather 29 = .ok (.invokevirtual 29, 3) := by decide +kernel
theorem dX4_gather_32 : decode cX4_gather 32 = .ok (.ifCond .eq 41, 3) := by decide +kernel
theorem dX4_gather_35 : decode cX4_gather 35 = .ok (.aload_n 0, 1) := by decide +kernel
theorem dX4_gather_36 : decode cX4_gather 36 = .ok (.getfield 25, 3) := by decide +kernel
theorem dX4_gather_39 : decode cX4_gather 39 = .ok (.iconst 0, 1) := by decide +kernel
theorem dX4_gather_40 : decode cX4_gather 40 = .ok (.bipush 49, 2) := by decide +kernel
theorem dX4_gather_42 : decode cX4_gather 42 = .ok (.invokestatic 33, 3) := by decide +kernel
theorem dX4_gather_45 : decode cX4_gather 45 = .ok (.ifCond .eq 28, 3) := by decide +kernel
theorem dX4_gather_48 : decode cX4_gather 48 = .ok (.aload_n 0, 1) := by decide +kernel
theorem dX4_gather_49 : decode cX4_gather 49 = .ok (.getfield 15, 3) := by decide +kernel
theorem dX4_gather_52 : decode cX4_gather 52 = .ok (.aload_n 0, 1) := by decide +kernel
theorem dX4_gather_53 : decode cX4_gather 53 = .ok (.getfield 25, 3) := by decide +kernel
theorem dX4_gather_56 : decode cX4_gather 56 = .ok (.bipush 10, 2) := by decide +kernel
theorem dX4_gather_58 : decode cX4_gather 58 = .ok (.iload_n 2, 1) := by decide +kernel
theorem dX4_gather_59 : decode cX4_gather 59 = .ok (.imul, 1) := by decide +kernel
theorem dX4_gather_60 : decode cX4_gather 60 = .ok (.iload_n 3, 1) := by decide +kernel
theorem dX4_gather_61 : decode cX4_gather 61 = .ok (.iadd, 1) := by decide +kernel
theorem dX4_gather_62 : decode cX4_gather 62 = .ok (.iastore, 1) := by decide +kernel
theorem dX4_gather_63 : decode cX4_gather 63 = .ok (.aload_n 0, 1) := by decide +kernel
theorem dX4_gather_64 : decode cX4_gather 64 = .ok (.dup, 1) := by decide +kernel
theorem dX4_gather_65 : decode cX4_gather 65 = .ok (.getfield 25, 3) := by decide +kernel
theorem dX4_gather_68 : decode cX4_gather 68 = .ok (.iconst 1, 1) := by decide +kernel
theorem dX4_gather_69 : decode cX4_gather 69 = .ok (.iadd, 1) := by decide +kernel
theorem dX4_gather_70 : decode cX4_gather 70 = .ok (.putfield 25, 3) := by decide +kernel
theorem dX4_gather_73 : decode cX4_gather 73 = .ok (.iinc 3 1, 3) := by decide +kernel
theorem dX4_gather_76 : decode cX4_gather 76 = .ok (.goto (-56), 3) := by decide +kernel
theorem dX4_gather_79 : decode cX4_gather 79 = .ok (.iinc 2 1, 3) := by decide +kernel
theorem dX4_gather_82 : decode cX4_gather 82 = .ok (.goto (-70), 3) := by decide +kernel
theorem dX4_gather_85 : decode cX4_gather 85 = .ok (.return_, 1) := by decide +kernel
set_option maxRecDepth 20000 in
theorem ggX4_fadeAll_X1_fadesInto : GoodIn wsX4_fadeAll wsX1_fadesInto := goodIn_r _ [6, 7, 8, 9, 10, 15, 16, 17, 18, 19, 20, 21, 22, 23, 24, 25, 26] (by decide +kernel) (by decide +kernel)
set_option maxRecDepth 20000 in
theorem gX4_fadeAll_X1_fadesInto : GoodIn wsX4_fadeAll (wsV RX4 37 RX1 yX1_fadesInto wsX1_fadesInto) := goodIn_app (goodIn_of _ (by decide +kernel)) ggX4_fadeAll_X1_fadesInto
theorem dX4_fadeAll_0 : decode cX4_fadeAll 0 = .ok (.iconst 0, 1) := by decide +kernel
theorem dX4_fadeAll_1 : decode cX4_fadeAll 1 = .ok (.istore_n 2, 1) := by decide +kernel
theorem dX4_fadeAll_2 : decode cX4_fadeAll 2 = .ok (.iload_n 2, 1) := by decide +kernel
theorem dX4_fadeAll_3 : decode cX4_fadeAll 3 = .ok (.bipush 10, 2) := by decide +kernel
theorem dX4_fadeAll_5 : decode cX4_fadeAll 5 = .ok (.if_icmp .ge 46, 3) := by decide +kernel
theorem dX4_fadeAll_8 : decode cX4_fadeAll 8 = .ok (.iload_n 2, 1) := by decide +kernel
theorem dX4_fadeAll_9 : decode cX4_fadeAll 9 = .ok (.istore_n 3, 1) := by decide +kernel
theorem dX4_fadeAll_10 : decode cX4_fadeAll 10 = .ok (.iconst 0, 1) := by decide +kernel
theorem dX4_fadeAll_11 : decode cX4_fadeAll 11 = .ok (.istore 4, 2) := by decide +kernel
theorem dX4_fadeAll_13 : decode cX4_fadeAll 13 = .ok (.iload 4, 2) := by decide +kernel
theorem dX4_fadeAll_15 : decode cX4_fadeAll 15 = .ok (.bipush 41, 2) := by decide +kernel
theorem dX4_fadeAll_17 : decode cX4_fadeAll 17 = .ok (.if_icmp .ge 28, 3) := by decide +kernel
theorem dX4_fadeAll_20 : decode cX4_fadeAll 20 = .ok (.aload_n 0, 1) := by decide +kernel
theorem dX4_fadeAll_21 : decode cX4_fadeAll 21 = .ok (.getfield 9, 3) := by decide +kernel
theorem dX4_fadeAll_24 : decode cX4_fadeAll 24 = .ok (.iload_n 2, 1) := by decide +kernel
theorem dX4_fadeAll_25 : decode cX4_fadeAll 25 = .ok (.bipush 41, 2) := by decide +kernel
