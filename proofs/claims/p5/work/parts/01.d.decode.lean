theorem dX6_forget_4 : decode cX6_forget 4 = .ok (.invokevirtual 184, 3) := by decide +kernel
theorem dX6_forget_7 : decode cX6_forget 7 = .ok (.istore_n 1, 1) := by decide +kernel
theorem dX6_forget_8 : decode cX6_forget 8 = .ok (.aload_n 0, 1) := by decide +kernel
theorem dX6_forget_9 : decode cX6_forget 9 = .ok (.getfield 12, 3) := by decide +kernel
theorem dX6_forget_12 : decode cX6_forget 12 = .ok (.invokevirtual 187, 3) := by decide +kernel
theorem dX6_forget_15 : decode cX6_forget 15 = .ok (.iload_n 1, 1) := by decide +kernel
theorem dX6_forget_16 : decode cX6_forget 16 = .ok (.ireturn, 1) := by decide +kernel
set_option maxRecDepth 20000 in
theorem ggX6_fits_X4_gather : GoodIn wsX6_fits wsX4_gather := goodIn_r _ [7, 8, 9, 10, 11, 12, 6, 13, 14, 15, 16, 17, 18, 19, 20, 21, 22, 23, 24, 25, 26, 27, 28, 29, 30, 31, 32, 33, 34, 35, 36, 37, 38, 39, 40, 41, 42, 43, 44, 45, 46, 47, 48, 65, 66, 67, 68, 69, 70, 71, 72, 73, 74, 75, 76, 77, 78, 79, 80] (by decide +kernel) (by decide +kernel)
set_option maxRecDepth 20000 in
theorem gX6_fits_X4_gather : GoodIn wsX6_fits (wsV RX6 190 RX4 yX4_gather wsX4_gather) := goodIn_app (goodIn_of _ (by decide +kernel)) ggX6_fits_X4_gather
set_option maxRecDepth 20000 in
theorem ggX6_fits_X4_size : GoodIn wsX6_fits wsX4_size := goodIn_r _ [52, 8, 65, 66, 67, 68] (by decide +kernel) (by decide +kernel)
set_option maxRecDepth 20000 in
theorem gX6_fits_X4_size : GoodIn wsX6_fits (wsV RX6 193 RX4 yX4_size wsX4_size) := goodIn_app (goodIn_of _ (by decide +kernel)) ggX6_fits_X4_size
set_option maxRecDepth 20000 in
theorem ggX6_fits_X4_pick : GoodIn wsX6_fits wsX4_pick := goodIn_r _ [56, 8, 9, 38, 22, 39, 65, 66, 67, 68] (by decide +kernel) (by decide +kernel)
set_option maxRecDepth 20000 in
theorem gX6_fits_X4_pick : GoodIn wsX6_fits (wsV RX6 194 RX4 yX4_pick wsX4_pick) := goodIn_app (goodIn_of _ (by decide +kernel)) ggX6_fits_X4_pick
theorem dX6_fits_0 : decode cX6_fits 0 = .ok (.aload_n 0, 1) := by decide +kernel
theorem dX6_fits_1 : decode cX6_fits 1 = .ok (.getfield 47, 3) := by decide +kernel
theorem dX6_fits_4 : decode cX6_fits 4 = .ok (.aload_n 0, 1) := by decide +kernel
theorem dX6_fits_5 : decode cX6_fits 5 = .ok (.getfield 12, 3) := by decide +kernel
theorem dX6_fits_8 : decode cX6_fits 8 = .ok (.invokevirtual 190, 3) := by decide +kernel
theorem dX6_fits_11 : decode cX6_fits 11 = .ok (.iload_n 1, 1) := by decide +kernel
theorem dX6_fits_12 : decode cX6_fits 12 = .ok (.iconst (-1), 1) := by decide +kernel
theorem dX6_fits_13 : decode cX6_fits 13 = .ok (.if_icmp .ne 13, 3) := by decide +kernel
theorem dX6_fits_16 : decode cX6_fits 16 = .ok (.aload_n 0, 1) := by decide +kernel
theorem dX6_fits_17 : decode cX6_fits 17 = .ok (.getfield 47, 3) := by decide +kernel
theorem dX6_fits_20 : decode cX6_fits 20 = .ok (.invokevirtual 193, 3) := by decide +kernel
theorem dX6_fits_23 : decode cX6_fits 23 = .ok (.goto 11, 3) := by decide +kernel
theorem dX6_fits_26 : decode cX6_fits 26 = .ok (.aload_n 0, 1) := by decide +kernel
theorem dX6_fits_27 : decode cX6_fits 27 = .ok (.getfield 47, 3) := by decide +kernel
theorem dX6_fits_30 : decode cX6_fits 30 = .ok (.iload_n 1, 1) := by decide +kernel
theorem dX6_fits_31 : decode cX6_fits 31 = .ok (.invokevirtual 194, 3) := by decide +kernel
theorem dX6_fits_34 : decode cX6_fits 34 = .ok (.ireturn, 1) := by decide +kernel
set_option maxRecDepth 20000 in
theorem ggX6_ask_X6_within : GoodIn wsX6_ask wsX6_within := goodIn_r _ [6] (by decide +kernel) (by decide +kernel)
set_option maxRecDepth 20000 in
theorem gX6_ask_X6_within : GoodIn wsX6_ask (va_wsS RX6 62 yX6_within wsX6_within) := goodIn_app (goodIn_of _ (by decide +kernel)) ggX6_ask_X6_within
set_option maxRecDepth 20000 in
theorem ggX6_ask_X4_gather : GoodIn wsX6_ask wsX4_gather := goodIn_r _ [11, 12, 13, 14, 15, 16, 10, 17, 18, 19, 20, 21, 22, 23, 24, 25, 5, 26, 27, 28, 29, 30, 31, 32, 33, 34, 35, 36, 37, 38, 39, 40, 4, 6, 41, 42, 43, 44, 45, 46, 47, 48, 49, 80, 81, 82, 83, 84, 85, 86, 87, 88, 89, 90, 91, 92, 93, 94, 95] (by decide +kernel) (by decide +kernel)
set_option maxRecDepth 20000 in
theorem gX6_ask_X4_gather : GoodIn wsX6_ask (wsV RX6 190 RX4 yX4_gather wsX4_gather) := goodIn_app (goodIn_of _ (by decide +kernel)) ggX6_ask_X4_gather
set_option maxRecDepth 20000 in
theorem ggX6_ask_X4_bedToAsk : GoodIn wsX6_ask wsX4_bedToAsk := goodIn_r _ [53, 12, 54, 55, 56, 10, 57, 58, 59, 60, 61, 62, 63, 64, 65, 66, 67, 68, 69, 70, 13, 4, 5, 6, 41, 42, 43, 44, 18, 25, 26, 80, 81, 82, 83] (by decide +kernel) (by decide +kernel)
set_option maxRecDepth 20000 in
theorem gX6_ask_X4_bedToAsk : GoodIn wsX6_ask (wsV RX6 197 RX4 yX4_bedToAsk wsX4_bedToAsk) := goodIn_app (goodIn_of _ (by decide +kernel)) ggX6_ask_X4_bedToAsk
set_option maxRecDepth 20000 in
theorem ggX6_ask_X4_mostLeft : GoodIn wsX6_ask wsX4_mostLeft := goodIn_r _ [57, 58, 12, 59, 60, 61, 62, 63, 64, 65, 66, 67, 68, 69, 10, 70, 13, 4, 5, 6, 41, 42, 43, 44, 18, 25, 26, 80, 81, 82, 83] (by decide +kernel) (by decide +kernel)
set_option maxRecDepth 20000 in
theorem gX6_ask_X4_mostLeft : GoodIn wsX6_ask (wsV RX6 200 RX4 yX4_mostLeft wsX4_mostLeft) := goodIn_app (goodIn_of _ (by decide +kernel)) ggX6_ask_X4_mostLeft
theorem dX6_ask_0 : decode cX6_ask 0 = .ok (.iload_n 1, 1) := by decide +kernel
theorem dX6_ask_1 : decode cX6_ask 1 = .ok (.iconst 0, 1) := by decide +kernel
theorem dX6_ask_2 : decode cX6_ask 2 = .ok (.iconst 1, 1) := by decide +kernel
theorem dX6_ask_3 : decode cX6_ask 3 = .ok (.invokestatic 62, 3) := by decide +kernel
theorem dX6_ask_6 : decode cX6_ask 6 = .ok (.ifCond .ne 6, 3) := by decide +kernel
theorem dX6_ask_9 : decode cX6_ask 9 = .ok (.bipush (-2), 2) := by decide +kernel
theorem dX6_ask_11 : decode cX6_ask 11 = .ok (.ireturn, 1) := by decide +kernel
theorem dX6_ask_12 : decode cX6_ask 12 = .ok (.aload_n 0, 1) := by decide +kernel
theorem dX6_ask_13 : decode cX6_ask 13 = .ok (.getfield 47, 3) := by decide +kernel
theorem dX6_ask_16 : decode cX6_ask 16 = .ok (.aload_n 0, 1) := by decide +kernel
theorem dX6_ask_17 : decode cX6_ask 17 = .ok (.getfield 12, 3) := by decide +kernel
theorem dX6_ask_20 : decode cX6_ask 20 = .ok (.invokevirtual 190, 3) := by decide +kernel
theorem dX6_ask_23 : decode cX6_ask 23 = .ok (.aload_n 0, 1) := by decide +kernel
theorem dX6_ask_24 : decode cX6_ask 24 = .ok (.getfield 47, 3) := by decide +kernel
theorem dX6_ask_27 : decode cX6_ask 27 = .ok (.invokevirtual 197, 3) := by decide +kernel
theorem dX6_ask_30 : decode cX6_ask 30 = .ok (.istore_n 2, 1) := by decide +kernel
theorem dX6_ask_31 : decode cX6_ask 31 = .ok (.iload_n 1, 1) := by decide +kernel
theorem dX6_ask_32 : decode cX6_ask 32 = .ok (.ifCond .eq 9, 3) := by decide +kernel
theorem dX6_ask_35 : decode cX6_ask 35 = .ok (.iload_n 2, 1) := by decide +kernel
theorem dX6_ask_36 : decode cX6_ask 36 = .ok (.bipush (-6), 2) := by decide +kernel
theorem dX6_ask_38 : decode cX6_ask 38 = .ok (.if_icmp .ne 7, 3) := by decide +kernel
theorem dX6_ask_41 : decode cX6_ask 41 = .ok (.iload_n 2, 1) := by decide +kernel
theorem dX6_ask_42 : decode cX6_ask 42 = .ok (.goto 11, 3) := by decide +kernel
theorem dX6_ask_45 : decode cX6_ask 45 = .ok (.aload_n 0, 1) := by decide +kernel
theorem dX6_ask_46 : decode cX6_ask 46 = .ok (.getfield 47, 3) := by decide +kernel
theorem dX6_ask_49 : decode cX6_ask 49 = .ok (.iload_n 2, 1) := by decide +kernel
theorem dX6_ask_50 : decode cX6_ask 50 = .ok (.invokevirtual 200, 3) := by decide +kernel
theorem dX6_ask_53 : decode cX6_ask 53 = .ok (.ireturn, 1) := by decide +kernel
set_option maxRecDepth 20000 in
theorem ggX6_row_X6_within : GoodIn wsX6_row wsX6_within := goodIn_r _ [6] (by decide +kernel) (by decide +kernel)
set_option maxRecDepth 20000 in
theorem gX6_row_X6_within : GoodIn wsX6_row (va_wsS RX6 62 yX6_within wsX6_within) := goodIn_app (goodIn_of _ (by decide +kernel)) ggX6_row_X6_within
set_option maxRecDepth 20000 in
theorem ggX6_row_X0_rowUpper : GoodIn wsX6_row wsX0_rowUpper := goodIn_r _ [11, 12, 13, 14, 15, 16, 10, 17, 18, 19, 20, 21, 38, 39, 40] (by decide +kernel) (by decide +kernel)
set_option maxRecDepth 20000 in
theorem gX6_row_X0_rowUpper : GoodIn wsX6_row (wsV RX6 205 RX0 yX0_rowUpper wsX0_rowUpper) := goodIn_app (goodIn_of _ (by decide +kernel)) ggX6_row_X0_rowUpper
set_option maxRecDepth 20000 in
theorem ggX6_row_X0_rowLower : GoodIn wsX6_row wsX0_rowLower := goodIn_r _ [25, 26] (by decide +kernel) (by decide +kernel)
set_option maxRecDepth 20000 in
theorem gX6_row_X0_rowLower : GoodIn wsX6_row (wsV RX6 209 RX0 yX0_rowLower wsX0_rowLower) := goodIn_app (goodIn_of _ (by decide +kernel)) ggX6_row_X0_rowLower
set_option maxRecDepth 20000 in
theorem ggX6_row_X6_commonPart : GoodIn wsX6_row wsX6_commonPart := goodIn_r _ [29] (by decide +kernel) (by decide +kernel)
set_option maxRecDepth 20000 in
theorem gX6_row_X6_commonPart : GoodIn wsX6_row (va_wsS RX6 213 yX6_commonPart wsX6_commonPart) := goodIn_app (goodIn_of _ (by decide +kernel)) ggX6_row_X6_commonPart
theorem dX6_row_0 : decode cX6_row 0 = .ok (.iload_n 1, 1) := by decide +kernel
theorem dX6_row_1 : decode cX6_row 1 = .ok (.iconst 0, 1) := by decide +kernel
theorem dX6_row_2 : decode cX6_row 2 = .ok (.bipush 10, 2) := by decide +kernel
theorem dX6_row_4 : decode cX6_row 4 = .ok (.invokestatic 62, 3) := by decide +kernel
theorem dX6_row_7 : decode cX6_row 7 = .ok (.ifCond .eq 57, 3) := by decide +kernel
theorem dX6_row_10 : decode cX6_row 10 = .ok (.iload_n 2, 1) := by decide +kernel
theorem dX6_row_11 : decode cX6_row 11 = .ok (.iconst 0, 1) := by decide +kernel
theorem dX6_row_12 : decode cX6_row 12 = .ok (.bipush 10, 2) := by decide +kernel
theorem dX6_row_14 : decode cX6_row 14 = .ok (.invokestatic 62, 3) := by decide +kernel
theorem dX6_row_17 : decode cX6_row 17 = .ok (.ifCond .eq 47, 3) := by decide +kernel
theorem dX6_row_20 : decode cX6_row 20 = .ok (.iload_n 3, 1) := by decide +kernel
theorem dX6_row_21 : decode cX6_row 21 = .ok (.iconst 0, 1) := by decide +kernel
theorem dX6_row_22 : decode cX6_row 22 = .ok (.bipush 10, 2) := by decide +kernel
theorem dX6_row_24 : decode cX6_row 24 = .ok (.invokestatic 62, 3) := by decide +kernel
theorem dX6_row_27 : decode cX6_row 27 = .ok (.ifCond .eq 37, 3) := by decide +kernel
theorem dX6_row_30 : decode cX6_row 30 = .ok (.iload 4, 2) := by decide +kernel
theorem dX6_row_32 : decode cX6_row 32 = .ok (.iconst 0, 1) := by decide +kernel
theorem dX6_row_33 : decode cX6_row 33 = .ok (.iload_n 1, 1) := by decide +kernel
theorem dX6_row_34 : decode cX6_row 34 = .ok (.invokestatic 62, 3) := by decide +kernel
theorem dX6_row_37 : decode cX6_row 37 = .ok (.ifCond .eq 27, 3) := by decide +kernel
theorem dX6_row_40 : decode cX6_row 40 = .ok (.iload 5, 2) := by decide +kernel
theorem dX6_row_42 : decode cX6_row 42 = .ok (.iconst 0, 1) := by decide +kernel
theorem dX6_row_43 : decode cX6_row 43 = .ok (.iconst 2, 1) := by decide +kernel
theorem dX6_row_44 : decode cX6_row 44 = .ok (.invokestatic 62, 3) := by decide +kernel
theorem dX6_row_47 : decode cX6_row 47 = .ok (.ifCond .eq 17, 3) := by decide +kernel
theorem dX6_row_50 : decode cX6_row 50 = .ok (.iload 6, 2) := by decide +kernel
theorem dX6_row_52 : decode cX6_row 52 = .ok (.iconst 0, 1) := by decide +kernel
theorem dX6_row_53 : decode cX6_row 53 = .ok (.iconst 1, 1) := by decide +kernel
theorem dX6_row_54 : decode cX6_row 54 = .ok (.invokestatic 62, 3) := by decide +kernel
theorem dX6_row_57 : decode cX6_row 57 = .ok (.ifCond .eq 7, 3) := by decide +kernel
theorem dX6_row_60 : decode cX6_row 60 = .ok (.iconst 1, 1) := by decide +kernel
theorem dX6_row_61 : decode cX6_row 61 = .ok (.goto 4, 3) := by decide +kernel
theorem dX6_row_64 : decode cX6_row 64 = .ok (.iconst 0, 1) := by decide +kernel
theorem dX6_row_65 : decode cX6_row 65 = .ok (.istore 7, 2) := by decide +kernel
theorem dX6_row_67 : decode cX6_row 67 = .ok (.iload 7, 2) := by decide +kernel
theorem dX6_row_69 : decode cX6_row 69 = .ok (.ifCond .ne 7, 3) := by decide +kernel
theorem dX6_row_72 : decode cX6_row 72 = .ok (.ldc2_w 203, 3) := by decide +kernel
theorem dX6_row_75 : decode cX6_row 75 = .ok (.lreturn, 1) := by decide +kernel
theorem dX6_row_76 : decode cX6_row 76 = .ok (.aload_n 0, 1) := by decide +kernel
theorem dX6_row_77 : decode cX6_row 77 = .ok (.getfield 54, 3) := by decide +kernel
theorem dX6_row_80 : decode cX6_row 80 = .ok (.iload_n 1, 1) := by decide +kernel
theorem dX6_row_81 : decode cX6_row 81 = .ok (.iload_n 2, 1) := by decide +kernel
theorem dX6_row_82 : decode cX6_row 82 = .ok (.iload_n 3, 1) := by decide +kernel
theorem dX6_row_83 : decode cX6_row 83 = .ok (.iload 4, 2) := by decide +kernel
theorem dX6_row_85 : decode cX6_row 85 = .ok (.iload 5, 2) := by decide +kernel
theorem dX6_row_87 : decode cX6_row 87 = .ok (.invokevirtual 205, 3) := by decide +kernel
theorem dX6_row_90 : decode cX6_row 90 = .ok (.lstore 8, 2) := by decide +kernel
theorem dX6_row_92 : decode cX6_row 92 = .ok (.aload_n 0, 1) := by decide +kernel
theorem dX6_row_93 : decode cX6_row 93 = .ok (.getfield 54, 3) := by decide +kernel
theorem dX6_row_96 : decode cX6_row 96 = .ok (.iload_n 1, 1) := by decide +kernel
theorem dX6_row_97 : decode cX6_row 97 = .ok (.invokevirtual 209, 3) := by decide +kernel
theorem dX6_row_100 : decode cX6_row 100 = .ok (.lstore 10, 2) := by decide +kernel
theorem dX6_row_102 : decode cX6_row 102 = .ok (.lload 8, 2) := by decide +kernel
theorem dX6_row_104 : decode cX6_row 104 = .ok (.lload 10, 2) := by decide +kernel
theorem dX6_row_106 : decode cX6_row 106 = .ok (.invokestatic 213, 3) := by decide +kernel
theorem dX6_row_109 : decode cX6_row 109 = .ok (.lstore 12, 2) := by decide +kernel
theorem dX6_row_111 : decode cX6_row 111 = .ok (.iload 6, 2) := by decide +kernel
theorem dX6_row_113 : decode cX6_row 113 = .ok (.ifCond .ne 8, 3) := by decide +kernel
theorem dX6_row_116 : decode cX6_row 116 = .ok (.lload 8, 2) := by decide +kernel
theorem dX6_row_118 : decode cX6_row 118 = .ok (.goto 5, 3) := by decide +kernel
theorem dX6_row_121 : decode cX6_row 121 = .ok (.lload 10, 2) := by decide +kernel
theorem dX6_row_123 : decode cX6_row 123 = .ok (.lstore 14, 2) := by decide +kernel
theorem dX6_row_125 : decode cX6_row 125 = .ok (.lload 12, 2) := by decide +kernel
theorem dX6_row_127 : decode cX6_row 127 = .ok (.lconst 0, 1) := by decide +kernel
theorem dX6_row_128 : decode cX6_row 128 = .ok (.lcmp, 1) := by decide +kernel
theorem dX6_row_129 : decode cX6_row 129 = .ok (.ifCond .le 11, 3) := by decide +kernel
theorem dX6_row_132 : decode cX6_row 132 = .ok (.lload 14, 2) := by decide +kernel
theorem dX6_row_134 : decode cX6_row 134 = .ok (.lload 12, 2) := by decide +kernel
theorem dX6_row_136 : decode cX6_row 136 = .ok (.ldiv, 1) := by decide +kernel
theorem dX6_row_137 : decode cX6_row 137 = .ok (.goto 5, 3) := by decide +kernel
theorem dX6_row_140 : decode cX6_row 140 = .ok (.lload 14, 2) := by decide +kernel
theorem dX6_row_142 : decode cX6_row 142 = .ok (.lreturn, 1) := by decide +kernel
set_option maxRecDepth 20000 in
theorem ggX6_embers_X6_within : GoodIn wsX6_embers wsX6_within := goodIn_r _ [5] (by decide +kernel) (by decide +kernel)
set_option maxRecDepth 20000 in
theorem gX6_embers_X6_within : GoodIn wsX6_embers (va_wsS RX6 62 yX6_within wsX6_within) := goodIn_app (goodIn_of _ (by decide +kernel)) ggX6_embers_X6_within
set_option maxRecDepth 20000 in
theorem ggX6_embers_X0_firstTake : GoodIn wsX6_embers wsX0_firstTake := goodIn_r _ [10, 11, 3, 4, 5, 12, 13, 14, 9, 15, 24, 25, 26] (by decide +kernel) (by decide +kernel)
set_option maxRecDepth 20000 in
theorem gX6_embers_X0_firstTake : GoodIn wsX6_embers (wsV RX6 217 RX0 yX0_firstTake wsX0_firstTake) := goodIn_app (goodIn_of _ (by decide +kernel)) ggX6_embers_X0_firstTake
theorem dX6_embers_0 : decode cX6_embers 0 = .ok (.iload_n 1, 1) := by decide +kernel
theorem dX6_embers_1 : decode cX6_embers 1 = .ok (.iconst 1, 1) := by decide +kernel
theorem dX6_embers_2 : decode cX6_embers 2 = .ok (.bipush 60, 2) := by decide +kernel
theorem dX6_embers_4 : decode cX6_embers 4 = .ok (.invokestatic 62, 3) := by decide +kernel
theorem dX6_embers_7 : decode cX6_embers 7 = .ok (.ifCond .eq 12, 3) := by decide +kernel
theorem dX6_embers_10 : decode cX6_embers 10 = .ok (.iload_n 2, 1) := by decide +kernel
theorem dX6_embers_11 : decode cX6_embers 11 = .ok (.iconst 0, 1) := by decide +kernel
theorem dX6_embers_12 : decode cX6_embers 12 = .ok (.iconst 1, 1) := by decide +kernel
theorem dX6_embers_13 : decode cX6_embers 13 = .ok (.invokestatic 62, 3) := by decide +kernel
theorem dX6_embers_16 : decode cX6_embers 16 = .ok (.ifCond .ne 6, 3) := by decide +kernel
theorem dX6_embers_19 : decode cX6_embers 19 = .ok (.bipush (-2), 2) := by decide +kernel
theorem dX6_embers_21 : decode cX6_embers 21 = .ok (.ireturn, 1) := by decide +kernel
theorem dX6_embers_22 : decode cX6_embers 22 = .ok (.aload_n 0, 1) := by decide +kernel
theorem dX6_embers_23 : decode cX6_embers 23 = .ok (.getfield 54, 3) := by decide +kernel
theorem dX6_embers_26 : decode cX6_embers 26 = .ok (.iload_n 1, 1) := by decide +kernel
theorem dX6_embers_27 : decode cX6_embers 27 = .ok (.invokevirtual 217, 3) := by decide +kernel
theorem dX6_embers_30 : decode cX6_embers 30 = .ok (.istore_n 3, 1) := by decide +kernel
theorem dX6_embers_31 : decode cX6_embers 31 = .ok (.iload_n 2, 1) := by decide +kernel
theorem dX6_embers_32 : decode cX6_embers 32 = .ok (.iconst 1, 1) := by decide +kernel
theorem dX6_embers_33 : decode cX6_embers 33 = .ok (.if_icmp .ne 5, 3) := by decide +kernel
theorem dX6_embers_36 : decode cX6_embers 36 = .ok (.iload_n 3, 1) := by decide +kernel
theorem dX6_embers_37 : decode cX6_embers 37 = .ok (.ireturn, 1) := by decide +kernel
theorem dX6_embers_38 : decode cX6_embers 38 = .ok (.iload_n 3, 1) := by decide +kernel
theorem dX6_embers_39 : decode cX6_embers 39 = .ok (.bipush (-6), 2) := by decide +kernel
theorem dX6_embers_41 : decode cX6_embers 41 = .ok (.if_icmp .ne 7, 3) := by decide +kernel
theorem dX6_embers_44 : decode cX6_embers 44 = .ok (.iconst 0, 1) := by decide +kernel
theorem dX6_embers_45 : decode cX6_embers 45 = .ok (.goto 4, 3) := by decide +kernel
theorem dX6_embers_48 : decode cX6_embers 48 = .ok (.iconst 1, 1) := by decide +kernel
theorem dX6_embers_49 : decode cX6_embers 49 = .ok (.ireturn, 1) := by decide +kernel
set_option maxRecDepth 20000 in
theorem ggX6_year_X6_within : GoodIn wsX6_year wsX6_within := goodIn_r _ [6] (by decide +kernel) (by decide +kernel)
set_option maxRecDepth 20000 in
theorem gX6_year_X6_within : GoodIn wsX6_year (va_wsS RX6 62 yX6_within wsX6_within) := goodIn_app (goodIn_of _ (by decide +kernel)) ggX6_year_X6_within
set_option maxRecDepth 20000 in
theorem ggX6_year_X1_copyFrom : GoodIn wsX6_year wsX1_copyFrom := goodIn_r _ [11, 12, 13, 14, 15, 16, 17, 18, 19, 20, 21, 22, 23, 24, 25, 26, 27, 124, 125, 126, 127, 128, 129, 130, 131, 132, 133, 134, 135] (by decide +kernel) (by decide +kernel)
set_option maxRecDepth 20000 in
theorem gX6_year_X1_copyFrom : GoodIn wsX6_year (wsV RX6 142 RX1 yX1_copyFrom wsX1_copyFrom) := goodIn_app (goodIn_of _ (by decide +kernel)) ggX6_year_X1_copyFrom
set_option maxRecDepth 20000 in
theorem ggX6_year_X1_liveYear : GoodIn wsX6_year wsX1_liveYear := goodIn_r _ [31, 32, 33, 34, 10, 35, 36, 37, 38, 39, 24, 25, 27, 40, 41, 42, 43, 12, 44, 5, 45, 46, 47, 48, 49, 26, 50, 51, 52, 53, 54, 55, 56, 18, 57, 58, 59, 60, 61, 62, 63, 64, 65, 66, 67, 68, 69, 70, 17, 71, 72, 73, 74, 19, 75, 76, 77, 78, 79, 80, 81, 82, 83, 84, 85, 86, 20, 87, 88, 89, 90, 91, 92, 124, 125, 126, 127, 128, 129, 130, 131, 132, 133, 134, 135] (by decide +kernel) (by decide +kernel)
set_option maxRecDepth 20000 in
theorem gX6_year_X1_liveYear : GoodIn wsX6_year (wsV RX6 220 RX1 yX1_liveYear wsX1_liveYear) := goodIn_app (goodIn_of _ (by decide +kernel)) ggX6_year_X1_liveYear
set_option maxRecDepth 20000 in
theorem ggX6_year_X1_believers : GoodIn wsX6_year wsX1_believers := goodIn_r _ [96, 97, 98, 99, 10, 100, 19, 101, 102, 103, 104, 105, 106, 107, 124, 125, 126, 127, 128, 129, 130, 131, 132, 133, 134, 135] (by decide +kernel) (by decide +kernel)
set_option maxRecDepth 20000 in
theorem gX6_year_X1_believers : GoodIn wsX6_year (wsV RX6 223 RX1 yX1_believers wsX1_believers) := goodIn_app (goodIn_of _ (by decide +kernel)) ggX6_year_X1_believers
set_option maxRecDepth 20000 in
theorem ggX6_year_X1_talesBelieved : GoodIn wsX6_year wsX1_talesBelieved := goodIn_r _ [111, 97, 98, 99, 10, 100, 19, 124, 125, 126, 127, 128, 129, 130, 131, 132, 133, 134, 135] (by decide +kernel) (by decide +kernel)
set_option maxRecDepth 20000 in
theorem gX6_year_X1_talesBelieved : GoodIn wsX6_year (wsV RX6 226 RX1 yX1_talesBelieved wsX1_talesBelieved) := goodIn_app (goodIn_of _ (by decide +kernel)) ggX6_year_X1_talesBelieved
set_option maxRecDepth 20000 in
theorem ggX6_year_X1_allDoubt : GoodIn wsX6_year wsX1_allDoubt := goodIn_r _ [115, 17, 124, 125, 126, 127, 128, 129, 130, 131, 132, 133, 134, 135] (by decide +kernel) (by decide +kernel)
set_option maxRecDepth 20000 in
theorem gX6_year_X1_allDoubt : GoodIn wsX6_year (wsV RX6 229 RX1 yX1_allDoubt wsX1_allDoubt) := goodIn_app (goodIn_of _ (by decide +kernel)) ggX6_year_X1_allDoubt
theorem dX6_year_0 : decode cX6_year 0 = .ok (.iload_n 1, 1) := by decide +kernel
theorem dX6_year_1 : decode cX6_year 1 = .ok (.iconst 0, 1) := by decide +kernel
theorem dX6_year_2 : decode cX6_year 2 = .ok (.sipush 9999, 3) := by decide +kernel
theorem dX6_year_5 : decode cX6_year 5 = .ok (.invokestatic 62, 3) := by decide +kernel
theorem dX6_year_8 : decode cX6_year 8 = .ok (.ifCond .eq 22, 3) := by decide +kernel
theorem dX6_year_11 : decode cX6_year 11 = .ok (.iload_n 2, 1) := by decide +kernel
theorem dX6_year_12 : decode cX6_year 12 = .ok (.iconst 1, 1) := by decide +kernel
theorem dX6_year_13 : decode cX6_year 13 = .ok (.bipush 99, 2) := by decide +kernel
theorem dX6_year_15 : decode cX6_year 15 = .ok (.invokestatic 62, 3) := by decide +kernel
theorem dX6_year_18 : decode cX6_year 18 = .ok (.ifCond .eq 12, 3) := by decide +kernel
theorem dX6_year_21 : decode cX6_year 21 = .ok (.iload_n 3, 1) := by decide +kernel
theorem dX6_year_22 : decode cX6_year 22 = .ok (.iconst 0, 1) := by decide +kernel
theorem dX6_year_23 : decode cX6_year 23 = .ok (.iconst 2, 1) := by decide +kernel
theorem dX6_year_24 : decode cX6_year 24 = .ok (.invokestatic 62, 3) := by decide +kernel
theorem dX6_year_27 : decode cX6_year 27 = .ok (.ifCond .ne 6, 3) := by decide +kernel
theorem dX6_year_30 : decode cX6_year 30 = .ok (.bipush (-2), 2) := by decide +kernel
theorem dX6_year_32 : decode cX6_year 32 = .ok (.ireturn, 1) := by decide +kernel
theorem dX6_year_33 : decode cX6_year 33 = .ok (.aload_n 0, 1) := by decide +kernel
theorem dX6_year_34 : decode cX6_year 34 = .ok (.getfield 16, 3) := by decide +kernel
theorem dX6_year_37 : decode cX6_year 37 = .ok (.aload_n 0, 1) := by decide +kernel
theorem dX6_year_38 : decode cX6_year 38 = .ok (.getfield 12, 3) := by decide +kernel
theorem dX6_year_41 : decode cX6_year 41 = .ok (.invokevirtual 142, 3) := by decide +kernel
theorem dX6_year_44 : decode cX6_year 44 = .ok (.aload_n 0, 1) := by decide +kernel
theorem dX6_year_45 : decode cX6_year 45 = .ok (.getfield 16, 3) := by decide +kernel
theorem dX6_year_48 : decode cX6_year 48 = .ok (.iload_n 1, 1) := by decide +kernel
theorem dX6_year_49 : decode cX6_year 49 = .ok (.iload_n 2, 1) := by decide +kernel
theorem dX6_year_50 : decode cX6_year 50 = .ok (.invokevirtual 220, 3) := by decide +kernel
theorem dX6_year_53 : decode cX6_year 53 = .ok (.iload_n 3, 1) := by decide +kernel
theorem dX6_year_54 : decode cX6_year 54 = .ok (.lookupswitch 42 #[(0, 26), (1, 34)], 26) := by decide +kernel
theorem dX6_year_80 : decode cX6_year 80 = .ok (.aload_n 0, 1) := by decide +kernel
theorem dX6_year_81 : decode cX6_year 81 = .ok (.getfield 16, 3) := by decide +kernel
theorem dX6_year_84 : decode cX6_year 84 = .ok (.invokevirtual 223, 3) := by decide +kernel
theorem dX6_year_87 : decode cX6_year 87 = .ok (.ireturn, 1) := by decide +kernel
theorem dX6_year_88 : decode cX6_year 88 = .ok (.aload_n 0, 1) := by decide +kernel
theorem dX6_year_89 : decode cX6_year 89 = .ok (.getfield 16, 3) := by decide +kernel
theorem dX6_year_92 : decode cX6_year 92 = .ok (.invokevirtual 226, 3) := by decide +kernel
theorem dX6_year_95 : decode cX6_year 95 = .ok (.ireturn, 1) := by decide +kernel
theorem dX6_year_96 : decode cX6_year 96 = .ok (.aload_n 0, 1) := by decide +kernel
theorem dX6_year_97 : decode cX6_year 97 = .ok (.getfield 16, 3) := by decide +kernel
theorem dX6_year_100 : decode cX6_year 100 = .ok (.invokevirtual 229, 3) := by decide +kernel
theorem dX6_year_103 : decode cX6_year 103 = .ok (.ireturn, 1) := by decide +kernel
set_option maxRecDepth 20000 in
theorem ggX6_image_X6_within : GoodIn wsX6_image wsX6_within := goodIn_r _ [9] (by decide +kernel) (by decide +kernel)
set_option maxRecDepth 20000 in
theorem gX6_image_X6_within : GoodIn wsX6_image (va_wsS RX6 62 yX6_within wsX6_within) := goodIn_app (goodIn_of _ (by decide +kernel)) ggX6_image_X6_within
set_option maxRecDepth 20000 in
theorem ggX6_image_X1_init : GoodIn wsX6_image wsX1_init := goodIn_r _ [12, 13, 14, 15, 16, 17, 18, 19, 20, 21, 22, 23, 24, 25, 26, 27, 28, 49, 50, 51, 52, 53, 54, 55, 56, 57, 58, 59, 60] (by decide +kernel) (by decide +kernel)
set_option maxRecDepth 20000 in
theorem gX6_image_X1_init : GoodIn wsX6_image (wsX1_init) := ggX6_image_X1_init
set_option maxRecDepth 20000 in
theorem ggX6_image_X1_copyFrom : GoodIn wsX6_image wsX1_copyFrom := goodIn_r _ [32, 17, 33, 34, 35, 36, 18, 19, 20, 21, 22, 23, 37, 24, 38, 39, 40, 49, 50, 51, 52, 53, 54, 55, 56, 57, 58, 59, 60] (by decide +kernel) (by decide +kernel)
set_option maxRecDepth 20000 in
theorem gX6_image_X1_copyFrom : GoodIn wsX6_image (wsV RX6 142 RX1 yX1_copyFrom wsX1_copyFrom) := goodIn_app (goodIn_of _ (by decide +kernel)) ggX6_image_X1_copyFrom
theorem dX6_image_0 : decode cX6_image 0 = .ok (.iload_n 1, 1) := by decide +kernel
theorem dX6_image_1 : decode cX6_image 1 = .ok (.iconst 0, 1) := by decide +kernel
theorem dX6_image_2 : decode cX6_image 2 = .ok (.iconst 1, 1) := by decide +kernel
theorem dX6_image_3 : decode cX6_image 3 = .ok (.invokestatic 62, 3) := by decide +kernel
theorem dX6_image_6 : decode cX6_image 6 = .ok (.ifCond .ne 6, 3) := by decide +kernel
theorem dX6_image_9 : decode cX6_image 9 = .ok (.bipush (-2), 2) := by decide +kernel
theorem dX6_image_11 : decode cX6_image 11 = .ok (.ireturn, 1) := by decide +kernel
theorem dX6_image_12 : decode cX6_image 12 = .ok (.aload_n 0, 1) := by decide +kernel
theorem dX6_image_13 : decode cX6_image 13 = .ok (.getfield 19, 3) := by decide +kernel
theorem dX6_image_16 : decode cX6_image 16 = .ok (.iload_n 1, 1) := by decide +kernel
theorem dX6_image_17 : decode cX6_image 17 = .ok (.aaload, 1) := by decide +kernel
theorem dX6_image_18 : decode cX6_image 18 = .ok (.astore_n 2, 1) := by decide +kernel
theorem dX6_image_19 : decode cX6_image 19 = .ok (.aload_n 2, 1) := by decide +kernel
theorem dX6_image_20 : decode cX6_image 20 = .ok (.ifnonnull 18, 3) := by decide +kernel
theorem dX6_image_23 : decode cX6_image 23 = .ok (.new 9, 3) := by decide +kernel
theorem dX6_image_26 : decode cX6_image 26 = .ok (.dup, 1) := by decide +kernel
theorem dX6_image_27 : decode cX6_image 27 = .ok (.invokespecial 11, 3) := by decide +kernel
theorem dX6_image_30 : decode cX6_image 30 = .ok (.astore_n 2, 1) := by decide +kernel
theorem dX6_image_31 : decode cX6_image 31 = .ok (.aload_n 0, 1) := by decide +kernel
theorem dX6_image_32 : decode cX6_image 32 = .ok (.getfield 19, 3) := by decide +kernel
theorem dX6_image_35 : decode cX6_image 35 = .ok (.iload_n 1, 1) := by decide +kernel
theorem dX6_image_36 : decode cX6_image 36 = .ok (.aload_n 2, 1) := by decide +kernel
theorem dX6_image_37 : decode cX6_image 37 = .ok (.aastore, 1) := by decide +kernel
theorem dX6_image_38 : decode cX6_image 38 = .ok (.aload_n 2, 1) := by decide +kernel
theorem dX6_image_39 : decode cX6_image 39 = .ok (.aload_n 0, 1) := by decide +kernel
theorem dX6_image_40 : decode cX6_image 40 = .ok (.getfield 12, 3) := by decide +kernel
theorem dX6_image_43 : decode cX6_image 43 = .ok (.invokevirtual 142, 3) := by decide +kernel
theorem dX6_image_46 : decode cX6_image 46 = .ok (.iconst 1, 1) := by decide +kernel
theorem dX6_image_47 : decode cX6_image 47 = .ok (.ireturn, 1) := by decide +kernel
set_option maxRecDepth 20000 in
theorem ggX6_restore_X6_within : GoodIn wsX6_restore wsX6_within := goodIn_r _ [6] (by decide +kernel) (by decide +kernel)
set_option maxRecDepth 20000 in
theorem gX6_restore_X6_within : GoodIn wsX6_restore (va_wsS RX6 62 yX6_within wsX6_within) := goodIn_app (goodIn_of _ (by decide +kernel)) ggX6_restore_X6_within
set_option maxRecDepth 20000 in
theorem ggX6_restore_X1_copyFrom : GoodIn wsX6_restore wsX1_copyFrom := goodIn_r _ [11, 12, 13, 14, 15, 16, 17, 18, 19, 20, 21, 22, 23, 24, 25, 26, 27, 36, 37, 38, 39, 40, 41, 42, 43, 44, 45, 46, 47] (by decide +kernel) (by decide +kernel)
set_option maxRecDepth 20000 in
theorem gX6_restore_X1_copyFrom : GoodIn wsX6_restore (wsV RX6 142 RX1 yX1_copyFrom wsX1_copyFrom) := goodIn_app (goodIn_of _ (by decide +kernel)) ggX6_restore_X1_copyFrom
theorem dX6_restore_0 : decode cX6_restore 0 = .ok (.iload_n 1, 1) := by decide +kernel
theorem dX6_restore_1 : decode cX6_restore 1 = .ok (.iconst 0, 1) := by decide +kernel
theorem dX6_restore_2 : decode cX6_restore 2 = .ok (.iconst 1, 1) := by decide +kernel
theorem dX6_restore_3 : decode cX6_restore 3 = .ok (.invokestatic 62, 3) := by decide +kernel
theorem dX6_restore_6 : decode cX6_restore 6 = .ok (.ifCond .ne 6, 3) := by decide +kernel
theorem dX6_restore_9 : decode cX6_restore 9 = .ok (.bipush (-2), 2) := by decide +kernel
theorem dX6_restore_11 : decode cX6_restore 11 = .ok (.ireturn, 1) := by decide +kernel
theorem dX6_restore_12 : decode cX6_restore 12 = .ok (.aload_n 0, 1) := by decide +kernel
theorem dX6_restore_13 : decode cX6_restore 13 = .ok (.getfield 19, 3) := by decide +kernel
theorem dX6_restore_16 : decode cX6_restore 16 = .ok (.iload_n 1, 1) := by decide +kernel
theorem dX6_restore_17 : decode cX6_restore 17 = .ok (.aaload, 1) := by decide +kernel
theorem dX6_restore_18 : decode cX6_restore 18 = .ok (.astore_n 2, 1) := by decide +kernel
theorem dX6_restore_19 : decode cX6_restore 19 = .ok (.aload_n 2, 1) := by decide +kernel
theorem dX6_restore_20 : decode cX6_restore 20 = .ok (.ifnonnull 6, 3) := by decide +kernel
theorem dX6_restore_23 : decode cX6_restore 23 = .ok (.bipush (-3), 2) := by decide +kernel
theorem dX6_restore_25 : decode cX6_restore 25 = .ok (.ireturn, 1) := by decide +kernel
theorem dX6_restore_26 : decode cX6_restore 26 = .ok (.aload_n 0, 1) := by decide +kernel
theorem dX6_restore_27 : decode cX6_restore 27 = .ok (.getfield 12, 3) := by decide +kernel
theorem dX6_restore_30 : decode cX6_restore 30 = .ok (.aload_n 2, 1) := by decide +kernel
theorem dX6_restore_31 : decode cX6_restore 31 = .ok (.invokevirtual 142, 3) := by decide +kernel
theorem dX6_restore_34 : decode cX6_restore 34 = .ok (.iconst 1, 1) := by decide +kernel
theorem dX6_restore_35 : decode cX6_restore 35 = .ok (.ireturn, 1) := by decide +kernel
set_option maxRecDepth 20000 in
theorem ggX6_told_X3_size : GoodIn wsX6_told wsX3_size := goodIn_r _ [7, 8, 71, 72] (by decide +kernel) (by decide +kernel)
set_option maxRecDepth 20000 in
theorem gX6_told_X3_size : GoodIn wsX6_told (wsV RX6 103 RX3 yX3_size wsX3_size) := goodIn_app (goodIn_of _ (by decide +kernel)) ggX6_told_X3_size
set_option maxRecDepth 20000 in
theorem ggX6_told_X6_within : GoodIn wsX6_told wsX6_within := goodIn_r _ [12] (by decide +kernel) (by decide +kernel)
set_option maxRecDepth 20000 in
theorem gX6_told_X6_within : GoodIn wsX6_told (va_wsS RX6 62 yX6_within wsX6_within) := goodIn_app (goodIn_of _ (by decide +kernel)) ggX6_told_X6_within
set_option maxRecDepth 20000 in
theorem ggX6_told_X1_panFact : GoodIn wsX6_told wsX1_panFact := goodIn_r _ [17, 18, 19, 20, 21, 73, 74, 75, 76, 77, 78, 79, 80, 81, 82, 83, 84] (by decide +kernel) (by decide +kernel)
set_option maxRecDepth 20000 in
theorem gX6_told_X1_panFact : GoodIn wsX6_told (wsV RX6 130 RX1 yX1_panFact wsX1_panFact) := goodIn_app (goodIn_of _ (by decide +kernel)) ggX6_told_X1_panFact
set_option maxRecDepth 20000 in
theorem ggX6_told_X1_sightCount : GoodIn wsX6_told wsX1_sightCount := goodIn_r _ [25, 26, 73, 74, 75, 76, 77, 78, 79, 80, 81, 82, 83, 84] (by decide +kernel) (by decide +kernel)
set_option maxRecDepth 20000 in
theorem gX6_told_X1_sightCount : GoodIn wsX6_told (wsV RX6 184 RX1 yX1_sightCount wsX1_sightCount) := goodIn_app (goodIn_of _ (by decide +kernel)) ggX6_told_X1_sightCount
set_option maxRecDepth 20000 in
theorem ggX6_told_X1_fadesInto : GoodIn wsX6_told wsX1_fadesInto := goodIn_r _ [30, 31, 32, 11, 33, 73, 74, 75, 76, 77, 78, 79, 80, 81, 82, 83, 84] (by decide +kernel) (by decide +kernel)
set_option maxRecDepth 20000 in
theorem gX6_told_X1_fadesInto : GoodIn wsX6_told (wsV RX6 94 RX1 yX1_fadesInto wsX1_fadesInto) := goodIn_app (goodIn_of _ (by decide +kernel)) ggX6_told_X1_fadesInto
set_option maxRecDepth 20000 in
theorem ggX6_told_X1_houseFact : GoodIn wsX6_told wsX1_houseFact := goodIn_r _ [37, 38, 39, 40, 16, 41, 42, 43, 11, 44, 45, 46, 47, 48, 49, 50, 51, 52, 53, 54, 73, 74, 75, 76, 77, 78, 79, 80, 81, 82, 83, 84] (by decide +kernel) (by decide +kernel)
set_option maxRecDepth 20000 in
theorem gX6_told_X1_houseFact : GoodIn wsX6_told (wsV RX6 127 RX1 yX1_houseFact wsX1_houseFact) := goodIn_app (goodIn_of _ (by decide +kernel)) ggX6_told_X1_houseFact
set_option maxRecDepth 20000 in
theorem ggX6_told_X6_isPlace : GoodIn wsX6_told wsX6_isPlace := goodIn_r _ [57] (by decide +kernel) (by decide +kernel)
set_option maxRecDepth 20000 in
theorem gX6_told_X6_isPlace : GoodIn wsX6_told (va_wsS RX6 58 yX6_isPlace wsX6_isPlace) := goodIn_app (goodIn_of _ (by decide +kernel)) ggX6_told_X6_isPlace
set_option maxRecDepth 20000 in
theorem ggX6_told_X1_longBetween : GoodIn wsX6_told wsX1_longBetween := goodIn_r _ [61, 62, 56, 11, 57, 73, 74, 75, 76, 77, 78, 79, 80, 81, 82, 83, 84] (by decide +kernel) (by decide +kernel)
set_option maxRecDepth 20000 in
theorem gX6_told_X1_longBetween : GoodIn wsX6_told (wsV RX6 66 RX1 yX1_longBetween wsX1_longBetween) := goodIn_app (goodIn_of _ (by decide +kernel)) ggX6_told_X1_longBetween
theorem dX6_told_0 : decode cX6_told 0 = .ok (.iload_n 1, 1) := by decide +kernel
theorem dX6_told_1 : decode cX6_told 1 = .ok (.ifCond .ne 11, 3) := by decide +kernel
theorem dX6_told_4 : decode cX6_told 4 = .ok (.aload_n 0, 1) := by decide +kernel
theorem dX6_told_5 : decode cX6_told 5 = .ok (.getfield 26, 3) := by decide +kernel
theorem dX6_told_8 : decode cX6_told 8 = .ok (.invokevirtual 103, 3) := by decide +kernel
theorem dX6_told_11 : decode cX6_told 11 = .ok (.ireturn, 1) := by decide +kernel
theorem dX6_told_12 : decode cX6_told 12 = .ok (.iload_n 1, 1) := by decide +kernel
theorem dX6_told_13 : decode cX6_told 13 = .ok (.iconst 1, 1) := by decide +kernel
theorem dX6_told_14 : decode cX6_told 14 = .ok (.iconst 4, 1) := by decide +kernel
theorem dX6_told_15 : decode cX6_told 15 = .ok (.invokestatic 62, 3) := by decide +kernel
theorem dX6_told_18 : decode cX6_told 18 = .ok (.ifCond .eq 14, 3) := by decide +kernel
theorem dX6_told_21 : decode cX6_told 21 = .ok (.aload_n 0, 1) := by decide +kernel
theorem dX6_told_22 : decode cX6_told 22 = .ok (.getfield 12, 3) := by decide +kernel
theorem dX6_told_25 : decode cX6_told 25 = .ok (.iload_n 1, 1) := by decide +kernel
theorem dX6_told_26 : decode cX6_told 26 = .ok (.iconst 1, 1) := by decide +kernel
theorem dX6_told_27 : decode cX6_told 27 = .ok (.isub, 1) := by decide +kernel
theorem dX6_told_28 : decode cX6_told 28 = .ok (.invokevirtual 130, 3) := by decide +kernel
theorem dX6_told_31 : decode cX6_told 31 = .ok (.ireturn, 1) := by decide +kernel
theorem dX6_told_32 : decode cX6_told 32 = .ok (.iload_n 1, 1) := by decide +kernel
theorem dX6_told_33 : decode cX6_told 33 = .ok (.iconst 5, 1) := by decide +kernel
theorem dX6_told_34 : decode cX6_told 34 = .ok (.if_icmp .ne 11, 3) := by decide +kernel
theorem dX6_told_37 : decode cX6_told 37 = .ok (.aload_n 0, 1) := by decide +kernel
theorem dX6_told_38 : decode cX6_told 38 = .ok (.getfield 12, 3) := by decide +kernel
theorem dX6_told_41 : decode cX6_told 41 = .ok (.invokevirtual 184, 3) := by decide +kernel
theorem dX6_told_44 : decode cX6_told 44 = .ok (.ireturn, 1) := by decide +kernel
theorem dX6_told_45 : decode cX6_told 45 = .ok (.iload_n 1, 1) := by decide +kernel
theorem dX6_told_46 : decode cX6_told 46 = .ok (.bipush 10, 2) := by decide +kernel
theorem dX6_told_48 : decode cX6_told 48 = .ok (.bipush 19, 2) := by decide +kernel
theorem dX6_told_50 : decode cX6_told 50 = .ok (.invokestatic 62, 3) := by decide +kernel
theorem dX6_told_53 : decode cX6_told 53 = .ok (.ifCond .eq 15, 3) := by decide +kernel
theorem dX6_told_56 : decode cX6_told 56 = .ok (.aload_n 0, 1) := by decide +kernel
theorem dX6_told_57 : decode cX6_told 57 = .ok (.getfield 12, 3) := by decide +kernel
theorem dX6_told_60 : decode cX6_told 60 = .ok (.iload_n 1, 1) := by decide +kernel
theorem dX6_told_61 : decode cX6_told 61 = .ok (.bipush 10, 2) := by decide +kernel
theorem dX6_told_63 : decode cX6_told 63 = .ok (.isub, 1) := by decide +kernel
theorem dX6_told_64 : decode cX6_told 64 = .ok (.invokevirtual 94, 3) := by decide +kernel
theorem dX6_told_67 : decode cX6_told 67 = .ok (.ireturn, 1) := by decide +kernel
theorem dX6_told_68 : decode cX6_told 68 = .ok (.iload_n 1, 1) := by decide +kernel
theorem dX6_told_69 : decode cX6_told 69 = .ok (.bipush 100, 2) := by decide +kernel
theorem dX6_told_71 : decode cX6_told 71 = .ok (.sipush 199, 3) := by decide +kernel
theorem dX6_told_74 : decode cX6_told 74 = .ok (.invokestatic 62, 3) := by decide +kernel
theorem dX6_told_77 : decode cX6_told 77 = .ok (.ifCond .eq 30, 3) := by decide +kernel
theorem dX6_told_80 : decode cX6_told 80 = .ok (.iload_n 1, 1) := by decide +kernel
theorem dX6_told_81 : decode cX6_told 81 = .ok (.bipush 10, 2) := by decide +kernel
theorem dX6_told_83 : decode cX6_told 83 = .ok (.irem, 1) := by decide +kernel
theorem dX6_told_84 : decode cX6_told 84 = .ok (.iconst 2, 1) := by decide +kernel
theorem dX6_told_85 : decode cX6_told 85 = .ok (.if_icmp .gt 22, 3) := by decide +kernel
theorem dX6_told_88 : decode cX6_told 88 = .ok (.aload_n 0, 1) := by decide +kernel
theorem dX6_told_89 : decode cX6_told 89 = .ok (.getfield 12, 3) := by decide +kernel
theorem dX6_told_92 : decode cX6_told 92 = .ok (.iload_n 1, 1) := by decide +kernel
theorem dX6_told_93 : decode cX6_told 93 = .ok (.bipush 100, 2) := by decide +kernel
theorem dX6_told_95 : decode cX6_told 95 = .ok (.isub, 1) := by decide +kernel
theorem dX6_told_96 : decode cX6_told 96 = .ok (.bipush 10, 2) := by decide +kernel
theorem dX6_told_98 : decode cX6_told 98 = .ok (.idiv, 1) := by decide +kernel
theorem dX6_told_99 : decode cX6_told 99 = .ok (.iload_n 1, 1) := by decide +kernel
theorem dX6_told_100 : decode cX6_told 100 = .ok (.bipush 10, 2) := by decide +kernel
theorem dX6_told_102 : decode cX6_told 102 = .ok (.irem, 1) := by decide +kernel
theorem dX6_told_103 : decode cX6_told 103 = .ok (.invokevirtual 127, 3) := by decide +kernel
theorem dX6_told_106 : decode cX6_told 106 = .ok (.ireturn, 1) := by decide +kernel
theorem dX6_told_107 : decode cX6_told 107 = .ok (.iload_n 1, 1) := by decide +kernel
theorem dX6_told_108 : decode cX6_told 108 = .ok (.sipush 1000, 3) := by decide +kernel
theorem dX6_told_111 : decode cX6_told 111 = .ok (.sipush 1219, 3) := by decide +kernel
theorem dX6_told_114 : decode cX6_told 114 = .ok (.invokestatic 62, 3) := by decide +kernel
theorem dX6_told_117 : decode cX6_told 117 = .ok (.ifCond .eq 21, 3) := by decide +kernel
theorem dX6_told_120 : decode cX6_told 120 = .ok (.iload_n 1, 1) := by decide +kernel
theorem dX6_told_121 : decode cX6_told 121 = .ok (.sipush 1000, 3) := by decide +kernel
theorem dX6_told_124 : decode cX6_told 124 = .ok (.isub, 1) := by decide +kernel
theorem dX6_told_125 : decode cX6_told 125 = .ok (.bipush 20, 2) := by decide +kernel
theorem dX6_told_127 : decode cX6_told 127 = .ok (.irem, 1) := by decide +kernel
theorem dX6_told_128 : decode cX6_told 128 = .ok (.invokestatic 58, 3) := by decide +kernel
theorem dX6_told_131 : decode cX6_told 131 = .ok (.ifCond .eq 7, 3) := by decide +kernel
theorem dX6_told_134 : decode cX6_told 134 = .ok (.iconst 1, 1) := by decide +kernel
theorem dX6_told_135 : decode cX6_told 135 = .ok (.goto 4, 3) := by decide +kernel
theorem dX6_told_138 : decode cX6_told 138 = .ok (.iconst 0, 1) := by decide +kernel
theorem dX6_told_139 : decode cX6_told 139 = .ok (.istore_n 2, 1) := by decide +kernel
theorem dX6_told_140 : decode cX6_told 140 = .ok (.iload_n 2, 1) := by decide +kernel
theorem dX6_told_141 : decode cX6_told 141 = .ok (.ifCond .eq 29, 3) := by decide +kernel
theorem dX6_told_144 : decode cX6_told 144 = .ok (.aload_n 0, 1) := by decide +kernel
theorem dX6_told_145 : decode cX6_told 145 = .ok (.getfield 12, 3) := by decide +kernel
theorem dX6_told_148 : decode cX6_told 148 = .ok (.iload_n 1, 1) := by decide +kernel
theorem dX6_told_149 : decode cX6_told 149 = .ok (.sipush 1000, 3) := by decide +kernel
theorem dX6_told_152 : decode cX6_told 152 = .ok (.isub, 1) := by decide +kernel
theorem dX6_told_153 : decode cX6_told 153 = .ok (.bipush 20, 2) := by decide +kernel
theorem dX6_told_155 : decode cX6_told 155 = .ok (.idiv, 1) := by decide +kernel
theorem dX6_told_156 : decode cX6_told 156 = .ok (.iload_n 1, 1) := by decide +kernel
theorem dX6_told_157 : decode cX6_told 157 = .ok (.sipush 1000, 3) := by decide +kernel
theorem dX6_told_160 : decode cX6_told 160 = .ok (.isub, 1) := by decide +kernel
theorem dX6_told_161 : decode cX6_told 161 = .ok (.bipush 20, 2) := by decide +kernel
theorem dX6_told_163 : decode cX6_told 163 = .ok (.irem, 1) := by decide +kernel
theorem dX6_told_164 : decode cX6_told 164 = .ok (.invokevirtual 66, 3) := by decide +kernel
theorem dX6_told_167 : decode cX6_told 167 = .ok (.goto 5, 3) := by decide +kernel
theorem dX6_told_170 : decode cX6_told 170 = .ok (.bipush (-2), 2) := by decide +kernel
theorem dX6_told_172 : decode cX6_told 172 = .ok (.ireturn, 1) := by decide +kernel
theorem dX6_within_0 : decode cX6_within 0 = .ok (.iload_n 0, 1) := by decide +kernel
theorem dX6_within_1 : decode cX6_within 1 = .ok (.iload_n 1, 1) := by decide +kernel
theorem dX6_within_2 : decode cX6_within 2 = .ok (.if_icmp .lt 12, 3) := by decide +kernel
theorem dX6_within_5 : decode cX6_within 5 = .ok (.iload_n 0, 1) := by decide +kernel
theorem dX6_within_6 : decode cX6_within 6 = .ok (.iload_n 2, 1) := by decide +kernel
theorem dX6_within_7 : decode cX6_within 7 = .ok (.if_icmp .gt 7, 3) := by decide +kernel
theorem dX6_within_10 : decode cX6_within 10 = .ok (.iconst 1, 1) := by decide +kernel
theorem dX6_within_11 : decode cX6_within 11 = .ok (.goto 4, 3) := by decide +kernel
theorem dX6_within_14 : decode cX6_within 14 = .ok (.iconst 0, 1) := by decide +kernel
theorem dX6_within_15 : decode cX6_within 15 = .ok (.ireturn, 1) := by decide +kernel
theorem dX6_isPlace_0 : decode cX6_isPlace 0 = .ok (.iload_n 0, 1) := by decide +kernel
theorem dX6_isPlace_1 : decode cX6_isPlace 1 = .ok (.ifCond .lt 13, 3) := by decide +kernel
theorem dX6_isPlace_4 : decode cX6_isPlace 4 = .ok (.iload_n 0, 1) := by decide +kernel
theorem dX6_isPlace_5 : decode cX6_isPlace 5 = .ok (.bipush 11, 2) := by decide +kernel
theorem dX6_isPlace_7 : decode cX6_isPlace 7 = .ok (.if_icmp .ge 7, 3) := by decide +kernel
theorem dX6_isPlace_10 : decode cX6_isPlace 10 = .ok (.iconst 1, 1) := by decide +kernel
theorem dX6_isPlace_11 : decode cX6_isPlace 11 = .ok (.goto 4, 3) := by decide +kernel
theorem dX6_isPlace_14 : decode cX6_isPlace 14 = .ok (.iconst 0, 1) := by decide +kernel
theorem dX6_isPlace_15 : decode cX6_isPlace 15 = .ok (.ireturn, 1) := by decide +kernel
theorem dX6_isHouse_0 : decode cX6_isHouse 0 = .ok (.iload_n 0, 1) := by decide +kernel
theorem dX6_isHouse_1 : decode cX6_isHouse 1 = .ok (.ifCond .lt 13, 3) := by decide +kernel
theorem dX6_isHouse_4 : decode cX6_isHouse 4 = .ok (.iload_n 0, 1) := by decide +kernel
theorem dX6_isHouse_5 : decode cX6_isHouse 5 = .ok (.bipush 10, 2) := by decide +kernel
theorem dX6_isHouse_7 : decode cX6_isHouse 7 = .ok (.if_icmp .ge 7, 3) := by decide +kernel
theorem dX6_isHouse_10 : decode cX6_isHouse 10 = .ok (.iconst 1, 1) := by decide +kernel
theorem dX6_isHouse_11 : decode cX6_isHouse 11 = .ok (.goto 4, 3) := by decide +kernel
theorem dX6_isHouse_14 : decode cX6_isHouse 14 = .ok (.iconst 0, 1) := by decide +kernel
theorem dX6_isHouse_15 : decode cX6_isHouse 15 = .ok (.ireturn, 1) := by decide +kernel
theorem dX6_isTale_0 : decode cX6_isTale 0 = .ok (.iload_n 0, 1) := by decide +kernel
theorem dX6_isTale_1 : decode cX6_isTale 1 = .ok (.ifCond .lt 13, 3) := by decide +kernel
theorem dX6_isTale_4 : decode cX6_isTale 4 = .ok (.iload_n 0, 1) := by decide +kernel
theorem dX6_isTale_5 : decode cX6_isTale 5 = .ok (.bipush 10, 2) := by decide +kernel
theorem dX6_isTale_7 : decode cX6_isTale 7 = .ok (.if_icmp .ge 7, 3) := by decide +kernel
theorem dX6_isTale_10 : decode cX6_isTale 10 = .ok (.iconst 1, 1) := by decide +kernel
theorem dX6_isTale_11 : decode cX6_isTale 11 = .ok (.goto 4, 3) := by decide +kernel
theorem dX6_isTale_14 : decode cX6_isTale 14 = .ok (.iconst 0, 1) := by decide +kernel
theorem dX6_isTale_15 : decode cX6_isTale 15 = .ok (.ireturn, 1) := by decide +kernel
theorem dX6_isIn_0 : decode cX6_isIn 0 = .ok (.iload_n 1, 1) := by decide +kernel
theorem dX6_isIn_1 : decode cX6_isIn 1 = .ok (.iload_n 0, 1) := by decide +kernel
theorem dX6_isIn_2 : decode cX6_isIn 2 = .ok (.ishr, 1) := by decide +kernel
theorem dX6_isIn_3 : decode cX6_isIn 3 = .ok (.iconst 1, 1) := by decide +kernel
theorem dX6_isIn_4 : decode cX6_isIn 4 = .ok (.iand, 1) := by decide +kernel
theorem dX6_isIn_5 : decode cX6_isIn 5 = .ok (.iconst 1, 1) := by decide +kernel
theorem dX6_isIn_6 : decode cX6_isIn 6 = .ok (.if_icmp .ne 7, 3) := by decide +kernel
theorem dX6_isIn_9 : decode cX6_isIn 9 = .ok (.iconst 1, 1) := by decide +kernel
theorem dX6_isIn_10 : decode cX6_isIn 10 = .ok (.goto 4, 3) := by decide +kernel
theorem dX6_isIn_13 : decode cX6_isIn 13 = .ok (.iconst 0, 1) := by decide +kernel
theorem dX6_isIn_14 : decode cX6_isIn 14 = .ok (.ireturn, 1) := by decide +kernel
theorem dX6_commonPart_0 : decode cX6_commonPart 0 = .ok (.lload_n 0, 1) := by decide +kernel
theorem dX6_commonPart_1 : decode cX6_commonPart 1 = .ok (.lstore 4, 2) := by decide +kernel
theorem dX6_commonPart_3 : decode cX6_commonPart 3 = .ok (.lload_n 2, 1) := by decide +kernel
theorem dX6_commonPart_4 : decode cX6_commonPart 4 = .ok (.lstore 6, 2) := by decide +kernel
theorem dX6_commonPart_6 : decode cX6_commonPart 6 = .ok (.iconst 0, 1) := by decide +kernel
theorem dX6_commonPart_7 : decode cX6_commonPart 7 = .ok (.istore 8, 2) := by decide +kernel
theorem dX6_commonPart_9 : decode cX6_commonPart 9 = .ok (.iload 8, 2) := by decide +kernel
theorem dX6_commonPart_11 : decode cX6_commonPart 11 = .ok (.sipush 1000, 3) := by decide +kernel
theorem dX6_commonPart_14 : decode cX6_commonPart 14 = .ok (.if_icmp .ge 31, 3) := by decide +kernel
theorem dX6_commonPart_17 : decode cX6_commonPart 17 = .ok (.lload 6, 2) := by decide +kernel
theorem dX6_commonPart_19 : decode cX6_commonPart 19 = .ok (.lconst 0, 1) := by decide +kernel
theorem dX6_commonPart_20 : decode cX6_commonPart 20 = .ok (.lcmp, 1) := by decide +kernel
theorem dX6_commonPart_21 : decode cX6_commonPart 21 = .ok (.ifCond .eq 24, 3) := by decide +kernel
theorem dX6_commonPart_24 : decode cX6_commonPart 24 = .ok (.lload 4, 2) := by decide +kernel
theorem dX6_commonPart_26 : decode cX6_commonPart 26 = .ok (.lload 6, 2) := by decide +kernel
theorem dX6_commonPart_28 : decode cX6_commonPart 28 = .ok (.lrem, 1) := by decide +kernel
theorem dX6_commonPart_29 : decode cX6_commonPart 29 = .ok (.lstore 9, 2) := by decide +kernel
theorem dX6_commonPart_31 : decode cX6_commonPart 31 = .ok (.lload 6, 2) := by decide +kernel
theorem dX6_commonPart_33 : decode cX6_commonPart 33 = .ok (.lstore 4, 2) := by decide +kernel
theorem dX6_commonPart_35 : decode cX6_commonPart 35 = .ok (.lload 9, 2) := by decide +kernel
theorem dX6_commonPart_37 : decode cX6_commonPart 37 = .ok (.lstore 6, 2) := by decide +kernel
theorem dX6_commonPart_39 : decode cX6_commonPart 39 = .ok (.iinc 8 1, 3) := by decide +kernel
theorem dX6_commonPart_42 : decode cX6_commonPart 42 = .ok (.goto (-33), 3) := by decide +kernel
theorem dX6_commonPart_45 : decode cX6_commonPart 45 = .ok (.lload 4, 2) := by decide +kernel
theorem dX6_commonPart_47 : decode cX6_commonPart 47 = .ok (.lreturn, 1) := by decide +kernel
theorem dX7_init_0 : decode cX7_init 0 = .ok (.aload_n 0, 1) := by decide +kernel
theorem dX7_init_1 : decode cX7_init 1 = .ok (.invokespecial 1, 3) := by decide +kernel
theorem dX7_init_4 : decode cX7_init 4 = .ok (.aload_n 0, 1) := by decide +kernel
theorem dX7_init_5 : decode cX7_init 5 = .ok (.bipush 121, 2) := by decide +kernel
theorem dX7_init_7 : decode cX7_init 7 = .ok (.newarray .int, 2) := by decide +kernel
theorem dX7_init_9 : decode cX7_init 9 = .ok (.putfield 7, 3) := by decide +kernel
theorem dX7_init_12 : decode cX7_init 12 = .ok (.aload_n 0, 1) := by decide +kernel
theorem dX7_init_13 : decode cX7_init 13 = .ok (.bipush 10, 2) := by decide +kernel
theorem dX7_init_15 : decode cX7_init 15 = .ok (.newarray .int, 2) := by decide +kernel
theorem dX7_init_17 : decode cX7_init 17 = .ok (.putfield 13, 3) := by decide +kernel
theorem dX7_init_20 : decode cX7_init 20 = .ok (.aload_n 0, 1) := by decide +kernel
theorem dX7_init_21 : decode cX7_init 21 = .ok (.bipush 10, 2) := by decide +kernel
theorem dX7_init_23 : decode cX7_init 23 = .ok (.newarray .int, 2) := by decide +kernel
theorem dX7_init_25 : decode cX7_init 25 = .ok (.putfield 16, 3) := by decide +kernel
theorem dX7_init_28 : decode cX7_init 28 = .ok (.aload_n 0, 1) := by decide +kernel
theorem dX7_init_29 : decode cX7_init 29 = .ok (.bipush 10, 2) := by decide +kernel
theorem dX7_init_31 : decode cX7_init 31 = .ok (.newarray .int, 2) := by decide +kernel
theorem dX7_init_33 : decode cX7_init 33 = .ok (.putfield 19, 3) := by decide +kernel
theorem dX7_init_36 : decode cX7_init 36 = .ok (.aload_n 0, 1) := by decide +kernel
theorem dX7_init_37 : decode cX7_init 37 = .ok (.bipush 10, 2) := by decide +kernel
theorem dX7_init_39 : decode cX7_init 39 = .ok (.newarray .int, 2) := by decide +kernel
theorem dX7_init_41 : decode cX7_init 41 = .ok (.putfield 22, 3) := by decide +kernel
theorem dX7_init_44 : decode cX7_init 44 = .ok (.aload_n 0, 1) := by decide +kernel
theorem dX7_init_45 : decode cX7_init 45 = .ok (.bipush 8, 2) := by decide +kernel
theorem dX7_init_47 : decode cX7_init 47 = .ok (.newarray .int, 2) := by decide +kernel
theorem dX7_init_49 : decode cX7_init 49 = .ok (.putfield 25, 3) := by decide +kernel
theorem dX7_init_52 : decode cX7_init 52 = .ok (.aload_n 0, 1) := by decide +kernel
theorem dX7_init_53 : decode cX7_init 53 = .ok (.bipush 8, 2) := by decide +kernel
theorem dX7_init_55 : decode cX7_init 55 = .ok (.newarray .int, 2) := by decide +kernel
theorem dX7_init_57 : decode cX7_init 57 = .ok (.putfield 28, 3) := by decide +kernel
theorem dX7_init_60 : decode cX7_init 60 = .ok (.aload_n 0, 1) := by decide +kernel
theorem dX7_init_61 : decode cX7_init 61 = .ok (.bipush 60, 2) := by decide +kernel
theorem dX7_init_63 : decode cX7_init 63 = .ok (.newarray .int, 2) := by decide +kernel
theorem dX7_init_65 : decode cX7_init 65 = .ok (.putfield 31, 3) := by decide +kernel
theorem dX7_init_68 : decode cX7_init 68 = .ok (.aload_n 0, 1) := by decide +kernel
theorem dX7_init_69 : decode cX7_init 69 = .ok (.bipush 60, 2) := by decide +kernel
theorem dX7_init_71 : decode cX7_init 71 = .ok (.newarray .int, 2) := by decide +kernel
theorem dX7_init_73 : decode cX7_init 73 = .ok (.putfield 34, 3) := by decide +kernel
theorem dX7_init_76 : decode cX7_init 76 = .ok (.aload_n 0, 1) := by decide +kernel
theorem dX7_init_77 : decode cX7_init 77 = .ok (.bipush 60, 2) := by decide +kernel
theorem dX7_init_79 : decode cX7_init 79 = .ok (.newarray .int, 2) := by decide +kernel
theorem dX7_init_81 : decode cX7_init 81 = .ok (.putfield 37, 3) := by decide +kernel
theorem dX7_init_84 : decode cX7_init 84 = .ok (.aload_n 0, 1) := by decide +kernel
theorem dX7_init_85 : decode cX7_init 85 = .ok (.bipush 60, 2) := by decide +kernel
theorem dX7_init_87 : decode cX7_init 87 = .ok (.newarray .int, 2) := by decide +kernel
theorem dX7_init_89 : decode cX7_init 89 = .ok (.putfield 40, 3) := by decide +kernel
theorem dX7_init_92 : decode cX7_init 92 = .ok (.aload_n 0, 1) := by decide +kernel
theorem dX7_init_93 : decode cX7_init 93 = .ok (.bipush 34, 2) := by decide +kernel
theorem dX7_init_95 : decode cX7_init 95 = .ok (.newarray .int, 2) := by decide +kernel
theorem dX7_init_97 : decode cX7_init 97 = .ok (.putfield 43, 3) := by decide +kernel
theorem dX7_init_100 : decode cX7_init 100 = .ok (.aload_n 0, 1) := by decide +kernel
theorem dX7_init_101 : decode cX7_init 101 = .ok (.bipush 121, 2) := by decide +kernel
theorem dX7_init_103 : decode cX7_init 103 = .ok (.newarray .int, 2) := by decide +kernel
theorem dX7_init_105 : decode cX7_init 105 = .ok (.putfield 46, 3) := by decide +kernel
theorem dX7_init_108 : decode cX7_init 108 = .ok (.aload_n 0, 1) := by decide +kernel
theorem dX7_init_109 : decode cX7_init 109 = .ok (.sipush 10240, 3) := by decide +kernel
theorem dX7_init_112 : decode cX7_init 112 = .ok (.newarray .int, 2) := by decide +kernel
theorem dX7_init_114 : decode cX7_init 114 = .ok (.putfield 49, 3) := by decide +kernel
theorem dX7_init_117 : decode cX7_init 117 = .ok (.aload_n 0, 1) := by decide +kernel
theorem dX7_init_118 : decode cX7_init 118 = .ok (.bipush 10, 2) := by decide +kernel
theorem dX7_init_120 : decode cX7_init 120 = .ok (.newarray .int, 2) := by decide +kernel
theorem dX7_init_122 : decode cX7_init 122 = .ok (.putfield 52, 3) := by decide +kernel
theorem dX7_init_125 : decode cX7_init 125 = .ok (.aload_n 0, 1) := by decide +kernel
theorem dX7_init_126 : decode cX7_init 126 = .ok (.bipush 22, 2) := by decide +kernel
theorem dX7_init_128 : decode cX7_init 128 = .ok (.newarray .long, 2) := by decide +kernel
theorem dX7_init_130 : decode cX7_init 130 = .ok (.putfield 55, 3) := by decide +kernel
theorem dX7_init_133 : decode cX7_init 133 = .ok (.aload_n 0, 1) := by decide +kernel
theorem dX7_init_134 : decode cX7_init 134 = .ok (.bipush 22, 2) := by decide +kernel
theorem dX7_init_136 : decode cX7_init 136 = .ok (.newarray .long, 2) := by decide +kernel
theorem dX7_init_138 : decode cX7_init 138 = .ok (.putfield 59, 3) := by decide +kernel
theorem dX7_init_141 : decode cX7_init 141 = .ok (.aload_n 0, 1) := by decide +kernel
theorem dX7_init_142 : decode cX7_init 142 = .ok (.sipush 3721, 3) := by decide +kernel
theorem dX7_init_145 : decode cX7_init 145 = .ok (.newarray .boolean, 2) := by decide +kernel
theorem dX7_init_147 : decode cX7_init 147 = .ok (.putfield 62, 3) := by decide +kernel
theorem dX7_init_150 : decode cX7_init 150 = .ok (.aload_n 0, 1) := by decide +kernel
theorem dX7_init_151 : decode cX7_init 151 = .ok (.sipush 400, 3) := by decide +kernel
theorem dX7_init_154 : decode cX7_init 154 = .ok (.newarray .int, 2) := by decide +kernel
theorem dX7_init_156 : decode cX7_init 156 = .ok (.putfield 66, 3) := by decide +kernel
theorem dX7_init_159 : decode cX7_init 159 = .ok (.aload_n 0, 1) := by decide +kernel
theorem dX7_init_160 : decode cX7_init 160 = .ok (.iconst 2, 1) := by decide +kernel
theorem dX7_init_161 : decode cX7_init 161 = .ok (.newarray .boolean, 2) := by decide +kernel
theorem dX7_init_163 : decode cX7_init 163 = .ok (.putfield 69, 3) := by decide +kernel
theorem dX7_init_166 : decode cX7_init 166 = .ok (.aload_n 0, 1) := by decide +kernel
theorem dX7_init_167 : decode cX7_init 167 = .ok (.bipush 10, 2) := by decide +kernel
theorem dX7_init_169 : decode cX7_init 169 = .ok (.putfield 72, 3) := by decide +kernel
theorem dX7_init_172 : decode cX7_init 172 = .ok (.iconst 0, 1) := by decide +kernel
theorem dX7_init_173 : decode cX7_init 173 = .ok (.istore_n 1, 1) := by decide +kernel
theorem dX7_init_174 : decode cX7_init 174 = .ok (.iload_n 1, 1) := by decide +kernel
theorem dX7_init_175 : decode cX7_init 175 = .ok (.bipush 10, 2) := by decide +kernel
theorem dX7_init_177 : decode cX7_init 177 = .ok (.if_icmp .ge 31, 3) := by decide +kernel
theorem dX7_init_180 : decode cX7_init 180 = .ok (.aload_n 0, 1) := by decide +kernel
theorem dX7_init_181 : decode cX7_init 181 = .ok (.getfield 13, 3) := by decide +kernel
theorem dX7_init_184 : decode cX7_init 184 = .ok (.iload_n 1, 1) := by decide +kernel
theorem dX7_init_185 : decode cX7_init 185 = .ok (.iconst 5, 1) := by decide +kernel
theorem dX7_init_186 : decode cX7_init 186 = .ok (.iastore, 1) := by decide +kernel
theorem dX7_init_187 : decode cX7_init 187 = .ok (.aload_n 0, 1) := by decide +kernel
theorem dX7_init_188 : decode cX7_init 188 = .ok (.getfield 19, 3) := by decide +kernel
theorem dX7_init_191 : decode cX7_init 191 = .ok (.iload_n 1, 1) := by decide +kernel
theorem dX7_init_192 : decode cX7_init 192 = .ok (.bipush (-6), 2) := by decide +kernel
theorem dX7_init_194 : decode cX7_init 194 = .ok (.iastore, 1) := by decide +kernel
theorem dX7_init_195 : decode cX7_init 195 = .ok (.aload_n 0, 1) := by decide +kernel
theorem dX7_init_196 : decode cX7_init 196 = .ok (.getfield 22, 3) := by decide +kernel
theorem dX7_init_199 : decode cX7_init 199 = .ok (.iload_n 1, 1) := by decide +kernel
theorem dX7_init_200 : decode cX7_init 200 = .ok (.iload_n 1, 1) := by decide +kernel
theorem dX7_init_201 : decode cX7_init 201 = .ok (.iastore, 1) := by decide +kernel
theorem dX7_init_202 : decode cX7_init 202 = .ok (.iinc 1 1, 3) := by decide +kernel
theorem dX7_init_205 : decode cX7_init 205 = .ok (.goto (-31), 3) := by decide +kernel
theorem dX7_init_208 : decode cX7_init 208 = .ok (.return_, 1) := by decide +kernel
theorem dX7_in_0 : decode cX7_in 0 = .ok (.lload_n 0, 1) := by decide +kernel
theorem dX7_in_1 : decode cX7_in 1 = .ok (.lload_n 2, 1) := by decide +kernel
theorem dX7_in_2 : decode cX7_in 2 = .ok (.lcmp, 1) := by decide +kernel
theorem dX7_in_3 : decode cX7_in 3 = .ok (.ifCond .lt 14, 3) := by decide +kernel
theorem dX7_in_6 : decode cX7_in 6 = .ok (.lload_n 0, 1) := by decide +kernel
theorem dX7_in_7 : decode cX7_in 7 = .ok (.lload 4, 2) := by decide +kernel
theorem dX7_in_9 : decode cX7_in 9 = .ok (.lcmp, 1) := by decide +kernel
theorem dX7_in_10 : decode cX7_in 10 = .ok (.ifCond .gt 7, 3) := by decide +kernel
theorem dX7_in_13 : decode cX7_in 13 = .ok (.iconst 1, 1) := by decide +kernel
theorem dX7_in_14 : decode cX7_in 14 = .ok (.goto 4, 3) := by decide +kernel
theorem dX7_in_17 : decode cX7_in 17 = .ok (.iconst 0, 1) := by decide +kernel
theorem dX7_in_18 : decode cX7_in 18 = .ok (.ireturn, 1) := by decide +kernel
theorem dX7_ones_0 : decode cX7_ones 0 = .ok (.iconst 0, 1) := by decide +kernel
theorem dX7_ones_1 : decode cX7_ones 1 = .ok (.istore_n 1, 1) := by decide +kernel
theorem dX7_ones_2 : decode cX7_ones 2 = .ok (.iload_n 0, 1) := by decide +kernel
theorem dX7_ones_3 : decode cX7_ones 3 = .ok (.istore_n 2, 1) := by decide +kernel
theorem dX7_ones_4 : decode cX7_ones 4 = .ok (.iload_n 2, 1) := by decide +kernel
theorem dX7_ones_5 : decode cX7_ones 5 = .ok (.ifCond .eq 15, 3) := by decide +kernel
theorem dX7_ones_8 : decode cX7_ones 8 = .ok (.iinc 1 1, 3) := by decide +kernel
theorem dX7_ones_11 : decode cX7_ones 11 = .ok (.iload_n 2, 1) := by decide +kernel
theorem dX7_ones_12 : decode cX7_ones 12 = .ok (.iload_n 2, 1) := by decide +kernel
theorem dX7_ones_13 : decode cX7_ones 13 = .ok (.iconst 1, 1) := by decide +kernel
theorem dX7_ones_14 : decode cX7_ones 14 = .ok (.isub, 1) := by decide +kernel
theorem dX7_ones_15 : decode cX7_ones 15 = .ok (.iand, 1) := by decide +kernel
theorem dX7_ones_16 : decode cX7_ones 16 = .ok (.istore_n 2, 1) := by decide +kernel
theorem dX7_ones_17 : decode cX7_ones 17 = .ok (.goto (-13), 3) := by decide +kernel
theorem dX7_ones_20 : decode cX7_ones 20 = .ok (.iload_n 1, 1) := by decide +kernel
theorem dX7_ones_21 : decode cX7_ones 21 = .ok (.ireturn, 1) := by decide +kernel
set_option maxRecDepth 20000 in
theorem ggX7_isHouse_X7_in : GoodIn wsX7_isHouse wsX7_in := goodIn_r _ [5] (by decide +kernel) (by decide +kernel)
set_option maxRecDepth 20000 in
theorem gX7_isHouse_X7_in : GoodIn wsX7_isHouse (va_wsS RX7 78 yX7_in wsX7_in) := goodIn_app (goodIn_of _ (by decide +kernel)) ggX7_isHouse_X7_in
theorem dX7_isHouse_0 : decode cX7_isHouse 0 = .ok (.iload_n 0, 1) := by decide +kernel
theorem dX7_isHouse_1 : decode cX7_isHouse 1 = .ok (.i2l, 1) := by decide +kernel
theorem dX7_isHouse_2 : decode cX7_isHouse 2 = .ok (.lconst 0, 1) := by decide +kernel
theorem dX7_isHouse_3 : decode cX7_isHouse 3 = .ok (.ldc2_w 76, 3) := by decide +kernel
theorem dX7_isHouse_6 : decode cX7_isHouse 6 = .ok (.invokestatic 78, 3) := by decide +kernel
theorem dX7_isHouse_9 : decode cX7_isHouse 9 = .ok (.ireturn, 1) := by decide +kernel
set_option maxRecDepth 20000 in
theorem ggX7_isPlace_X7_in : GoodIn wsX7_isPlace wsX7_in := goodIn_r _ [5] (by decide +kernel) (by decide +kernel)
set_option maxRecDepth 20000 in
theorem gX7_isPlace_X7_in : GoodIn wsX7_isPlace (va_wsS RX7 78 yX7_in wsX7_in) := goodIn_app (goodIn_of _ (by decide +kernel)) ggX7_isPlace_X7_in
theorem dX7_isPlace_0 : decode cX7_isPlace 0 = .ok (.iload_n 0, 1) := by decide +kernel
theorem dX7_isPlace_1 : decode cX7_isPlace 1 = .ok (.i2l, 1) := by decide +kernel
theorem dX7_isPlace_2 : decode cX7_isPlace 2 = .ok (.lconst 0, 1) := by decide +kernel
theorem dX7_isPlace_3 : decode cX7_isPlace 3 = .ok (.ldc2_w 82, 3) := by decide +kernel
theorem dX7_isPlace_6 : decode cX7_isPlace 6 = .ok (.invokestatic 78, 3) := by decide +kernel
theorem dX7_isPlace_9 : decode cX7_isPlace 9 = .ok (.ireturn, 1) := by decide +kernel
set_option maxRecDepth 20000 in
theorem ggX7_isTale_X7_in : GoodIn wsX7_isTale wsX7_in := goodIn_r _ [5] (by decide +kernel) (by decide +kernel)
set_option maxRecDepth 20000 in
theorem gX7_isTale_X7_in : GoodIn wsX7_isTale (va_wsS RX7 78 yX7_in wsX7_in) := goodIn_app (goodIn_of _ (by decide +kernel)) ggX7_isTale_X7_in
theorem dX7_isTale_0 : decode cX7_isTale 0 = .ok (.iload_n 0, 1) := by decide +kernel
theorem dX7_isTale_1 : decode cX7_isTale 1 = .ok (.i2l, 1) := by decide +kernel
theorem dX7_isTale_2 : decode cX7_isTale 2 = .ok (.lconst 0, 1) := by decide +kernel
theorem dX7_isTale_3 : decode cX7_isTale 3 = .ok (.ldc2_w 76, 3) := by decide +kernel
theorem dX7_isTale_6 : decode cX7_isTale 6 = .ok (.invokestatic 78, 3) := by decide +kernel
theorem dX7_isTale_9 : decode cX7_isTale 9 = .ok (.ireturn, 1) := by decide +kernel
set_option maxRecDepth 20000 in
theorem ggX7_road_X7_isPlace : GoodIn wsX7_road wsX7_isPlace := goodIn_r _ [6, 7, 8, 9, 5, 10] (by decide +kernel) (by decide +kernel)
set_option maxRecDepth 20000 in
theorem gX7_road_X7_isPlace : GoodIn wsX7_road (va_wsS RX7 84 yX7_isPlace wsX7_isPlace) := goodIn_app (goodIn_of _ (by decide +kernel)) ggX7_road_X7_isPlace
set_option maxRecDepth 20000 in
theorem ggX7_road_X7_in : GoodIn wsX7_road wsX7_in := goodIn_r _ [10] (by decide +kernel) (by decide +kernel)
set_option maxRecDepth 20000 in
theorem gX7_road_X7_in : GoodIn wsX7_road (va_wsS RX7 78 yX7_in wsX7_in) := goodIn_app (goodIn_of _ (by decide +kernel)) ggX7_road_X7_in
theorem dX7_road_0 : decode cX7_road 0 = .ok (.iload_n 1, 1) := by decide +kernel
theorem dX7_road_1 : decode cX7_road 1 = .ok (.invokestatic 84, 3) := by decide +kernel
theorem dX7_road_4 : decode cX7_road 4 = .ok (.ifCond .eq 15, 3) := by decide +kernel
theorem dX7_road_7 : decode cX7_road 7 = .ok (.iload_n 2, 1) := by decide +kernel
theorem dX7_road_8 : decode cX7_road 8 = .ok (.invokestatic 84, 3) := by decide +kernel
theorem dX7_road_11 : decode cX7_road 11 = .ok (.ifCond .eq 8, 3) := by decide +kernel
theorem dX7_road_14 : decode cX7_road 14 = .ok (.iload_n 1, 1) := by decide +kernel
theorem dX7_road_15 : decode cX7_road 15 = .ok (.iload_n 2, 1) := by decide +kernel
theorem dX7_road_16 : decode cX7_road 16 = .ok (.if_icmp .ne 5, 3) := by decide +kernel
theorem dX7_road_19 : decode cX7_road 19 = .ok (.iconst (-1), 1) := by decide +kernel
theorem dX7_road_20 : decode cX7_road 20 = .ok (.ireturn, 1) := by decide +kernel
theorem dX7_road_21 : decode cX7_road 21 = .ok (.iload_n 3, 1) := by decide +kernel
theorem dX7_road_22 : decode cX7_road 22 = .ok (.i2l, 1) := by decide +kernel
theorem dX7_road_23 : decode cX7_road 23 = .ok (.lconst 0, 1) := by decide +kernel
theorem dX7_road_24 : decode cX7_road 24 = .ok (.ldc2_w 76, 3) := by decide +kernel
theorem dX7_road_27 : decode cX7_road 27 = .ok (.invokestatic 78, 3) := by decide +kernel
theorem dX7_road_30 : decode cX7_road 30 = .ok (.ifCond .ne 6, 3) := by decide +kernel
theorem dX7_road_33 : decode cX7_road 33 = .ok (.bipush (-2), 2) := by decide +kernel
theorem dX7_road_35 : decode cX7_road 35 = .ok (.ireturn, 1) := by decide +kernel
theorem dX7_road_36 : decode cX7_road 36 = .ok (.aload_n 0, 1) := by decide +kernel
theorem dX7_road_37 : decode cX7_road 37 = .ok (.getfield 7, 3) := by decide +kernel
theorem dX7_road_40 : decode cX7_road 40 = .ok (.bipush 11, 2) := by decide +kernel
theorem dX7_road_42 : decode cX7_road 42 = .ok (.iload_n 1, 1) := by decide +kernel
theorem dX7_road_43 : decode cX7_road 43 = .ok (.imul, 1) := by decide +kernel
theorem dX7_road_44 : decode cX7_road 44 = .ok (.iload_n 2, 1) := by decide +kernel
theorem dX7_road_45 : decode cX7_road 45 = .ok (.iadd, 1) := by decide +kernel
theorem dX7_road_46 : decode cX7_road 46 = .ok (.iaload, 1) := by decide +kernel
theorem dX7_road_47 : decode cX7_road 47 = .ok (.istore 4, 2) := by decide +kernel
theorem dX7_road_49 : decode cX7_road 49 = .ok (.aload_n 0, 1) := by decide +kernel
theorem dX7_road_50 : decode cX7_road 50 = .ok (.getfield 7, 3) := by decide +kernel
theorem dX7_road_53 : decode cX7_road 53 = .ok (.bipush 11, 2) := by decide +kernel
theorem dX7_road_55 : decode cX7_road 55 = .ok (.iload_n 1, 1) := by decide +kernel
theorem dX7_road_56 : decode cX7_road 56 = .ok (.imul, 1) := by decide +kernel
theorem dX7_road_57 : decode cX7_road 57 = .ok (.iload_n 2, 1) := by decide +kernel
theorem dX7_road_58 : decode cX7_road 58 = .ok (.iadd, 1) := by decide +kernel
theorem dX7_road_59 : decode cX7_road 59 = .ok (.iload_n 3, 1) := by decide +kernel
theorem dX7_road_60 : decode cX7_road 60 = .ok (.iastore, 1) := by decide +kernel
theorem dX7_road_61 : decode cX7_road 61 = .ok (.aload_n 0, 1) := by decide +kernel
theorem dX7_road_62 : decode cX7_road 62 = .ok (.getfield 7, 3) := by decide +kernel
theorem dX7_road_65 : decode cX7_road 65 = .ok (.bipush 11, 2) := by decide +kernel
theorem dX7_road_67 : decode cX7_road 67 = .ok (.iload_n 2, 1) := by decide +kernel
theorem dX7_road_68 : decode cX7_road 68 = .ok (.imul, 1) := by decide +kernel
theorem dX7_road_69 : decode cX7_road 69 = .ok (.iload_n 1, 1) := by decide +kernel
theorem dX7_road_70 : decode cX7_road 70 = .ok (.iadd, 1) := by decide +kernel
theorem dX7_road_71 : decode cX7_road 71 = .ok (.iload_n 3, 1) := by decide +kernel
theorem dX7_road_72 : decode cX7_road 72 = .ok (.iastore, 1) := by decide +kernel
theorem dX7_road_73 : decode cX7_road 73 = .ok (.iload 4, 2) := by decide +kernel
theorem dX7_road_75 : decode cX7_road 75 = .ok (.ireturn, 1) := by decide +kernel
set_option maxRecDepth 20000 in
theorem ggX7_house_X7_isHouse : GoodIn wsX7_house wsX7_isHouse := goodIn_r _ [7, 1, 8, 9, 6, 10] (by decide +kernel) (by decide +kernel)
set_option maxRecDepth 20000 in
theorem gX7_house_X7_isHouse : GoodIn wsX7_house (va_wsS RX7 88 yX7_isHouse wsX7_isHouse) := goodIn_app (goodIn_of _ (by decide +kernel)) ggX7_house_X7_isHouse
set_option maxRecDepth 20000 in
theorem ggX7_house_X7_in : GoodIn wsX7_house wsX7_in := goodIn_r _ [10] (by decide +kernel) (by decide +kernel)
set_option maxRecDepth 20000 in
theorem gX7_house_X7_in : GoodIn wsX7_house (va_wsS RX7 78 yX7_in wsX7_in) := goodIn_app (goodIn_of _ (by decide +kernel)) ggX7_house_X7_in
theorem dX7_house_0 : decode cX7_house 0 = .ok (.iload_n 1, 1) := by decide +kernel
theorem dX7_house_1 : decode cX7_house 1 = .ok (.invokestatic 88, 3) := by decide +kernel
theorem dX7_house_4 : decode cX7_house 4 = .ok (.ifCond .ne 5, 3) := by decide +kernel
theorem dX7_house_7 : decode cX7_house 7 = .ok (.iconst (-1), 1) := by decide +kernel
theorem dX7_house_8 : decode cX7_house 8 = .ok (.ireturn, 1) := by decide +kernel
theorem dX7_house_9 : decode cX7_house 9 = .ok (.iload_n 2, 1) := by decide +kernel
theorem dX7_house_10 : decode cX7_house 10 = .ok (.i2l, 1) := by decide +kernel
theorem dX7_house_11 : decode cX7_house 11 = .ok (.lconst 0, 1) := by decide +kernel
theorem dX7_house_12 : decode cX7_house 12 = .ok (.ldc2_w 76, 3) := by decide +kernel
theorem dX7_house_15 : decode cX7_house 15 = .ok (.invokestatic 78, 3) := by decide +kernel
theorem dX7_house_18 : decode cX7_house 18 = .ok (.ifCond .eq 13, 3) := by decide +kernel
theorem dX7_house_21 : decode cX7_house 21 = .ok (.iload_n 3, 1) := by decide +kernel
theorem dX7_house_22 : decode cX7_house 22 = .ok (.i2l, 1) := by decide +kernel
theorem dX7_house_23 : decode cX7_house 23 = .ok (.lconst 0, 1) := by decide +kernel
theorem dX7_house_24 : decode cX7_house 24 = .ok (.lconst 1, 1) := by decide +kernel
theorem dX7_house_25 : decode cX7_house 25 = .ok (.invokestatic 78, 3) := by decide +kernel
theorem dX7_house_28 : decode cX7_house 28 = .ok (.ifCond .ne 6, 3) := by decide +kernel
theorem dX7_house_31 : decode cX7_house 31 = .ok (.bipush (-2), 2) := by decide +kernel
theorem dX7_house_33 : decode cX7_house 33 = .ok (.ireturn, 1) := by decide +kernel
theorem dX7_house_34 : decode cX7_house 34 = .ok (.aload_n 0, 1) := by decide +kernel
theorem dX7_house_35 : decode cX7_house 35 = .ok (.getfield 13, 3) := by decide +kernel
theorem dX7_house_38 : decode cX7_house 38 = .ok (.iload_n 1, 1) := by decide +kernel
theorem dX7_house_39 : decode cX7_house 39 = .ok (.iaload, 1) := by decide +kernel
theorem dX7_house_40 : decode cX7_house 40 = .ok (.istore 4, 2) := by decide +kernel
theorem dX7_house_42 : decode cX7_house 42 = .ok (.aload_n 0, 1) := by decide +kernel
theorem dX7_house_43 : decode cX7_house 43 = .ok (.getfield 13, 3) := by decide +kernel
theorem dX7_house_46 : decode cX7_house 46 = .ok (.iload_n 1, 1) := by decide +kernel
theorem dX7_house_47 : decode cX7_house 47 = .ok (.iload_n 2, 1) := by decide +kernel
theorem dX7_house_48 : decode cX7_house 48 = .ok (.iastore, 1) := by decide +kernel
theorem dX7_house_49 : decode cX7_house 49 = .ok (.aload_n 0, 1) := by decide +kernel
theorem dX7_house_50 : decode cX7_house 50 = .ok (.getfield 16, 3) := by decide +kernel
theorem dX7_house_53 : decode cX7_house 53 = .ok (.iload_n 1, 1) := by decide +kernel
theorem dX7_house_54 : decode cX7_house 54 = .ok (.iload_n 3, 1) := by decide +kernel
theorem dX7_house_55 : decode cX7_house 55 = .ok (.iastore, 1) := by decide +kernel
theorem dX7_house_56 : decode cX7_house 56 = .ok (.iload 4, 2) := by decide +kernel
theorem dX7_house_58 : decode cX7_house 58 = .ok (.ireturn, 1) := by decide +kernel
set_option maxRecDepth 20000 in
theorem ggX7_tell_X7_isHouse : GoodIn wsX7_tell wsX7_isHouse := goodIn_r _ [7, 2, 8, 9, 6, 10] (by decide +kernel) (by decide +kernel)
set_option maxRecDepth 20000 in
theorem gX7_tell_X7_isHouse : GoodIn wsX7_tell (va_wsS RX7 88 yX7_isHouse wsX7_isHouse) := goodIn_app (goodIn_of _ (by decide +kernel)) ggX7_tell_X7_isHouse
set_option maxRecDepth 20000 in
theorem ggX7_tell_X7_in : GoodIn wsX7_tell wsX7_in := goodIn_r _ [10] (by decide +kernel) (by decide +kernel)
set_option maxRecDepth 20000 in
theorem gX7_tell_X7_in : GoodIn wsX7_tell (va_wsS RX7 78 yX7_in wsX7_in) := goodIn_app (goodIn_of _ (by decide +kernel)) ggX7_tell_X7_in
theorem dX7_tell_0 : decode cX7_tell 0 = .ok (.iload_n 1, 1) := by decide +kernel
theorem dX7_tell_1 : decode cX7_tell 1 = .ok (.invokestatic 88, 3) := by decide +kernel
theorem dX7_tell_4 : decode cX7_tell 4 = .ok (.ifCond .eq 17, 3) := by decide +kernel
theorem dX7_tell_7 : decode cX7_tell 7 = .ok (.iload_n 2, 1) := by decide +kernel
theorem dX7_tell_8 : decode cX7_tell 8 = .ok (.i2l, 1) := by decide +kernel
theorem dX7_tell_9 : decode cX7_tell 9 = .ok (.ldc2_w 91, 3) := by decide +kernel
theorem dX7_tell_12 : decode cX7_tell 12 = .ok (.ldc2_w 76, 3) := by decide +kernel
theorem dX7_tell_15 : decode cX7_tell 15 = .ok (.invokestatic 78, 3) := by decide +kernel
theorem dX7_tell_18 : decode cX7_tell 18 = .ok (.ifCond .ne 5, 3) := by decide +kernel
theorem dX7_tell_21 : decode cX7_tell 21 = .ok (.iconst (-1), 1) := by decide +kernel
theorem dX7_tell_22 : decode cX7_tell 22 = .ok (.ireturn, 1) := by decide +kernel
theorem dX7_tell_23 : decode cX7_tell 23 = .ok (.aload_n 0, 1) := by decide +kernel
theorem dX7_tell_24 : decode cX7_tell 24 = .ok (.getfield 19, 3) := by decide +kernel
theorem dX7_tell_27 : decode cX7_tell 27 = .ok (.iload_n 1, 1) := by decide +kernel
theorem dX7_tell_28 : decode cX7_tell 28 = .ok (.iaload, 1) := by decide +kernel
theorem dX7_tell_29 : decode cX7_tell 29 = .ok (.istore_n 3, 1) := by decide +kernel
theorem dX7_tell_30 : decode cX7_tell 30 = .ok (.aload_n 0, 1) := by decide +kernel
theorem dX7_tell_31 : decode cX7_tell 31 = .ok (.getfield 19, 3) := by decide +kernel
theorem dX7_tell_34 : decode cX7_tell 34 = .ok (.iload_n 1, 1) := by decide +kernel
theorem dX7_tell_35 : decode cX7_tell 35 = .ok (.iload_n 2, 1) := by decide +kernel
theorem dX7_tell_36 : decode cX7_tell 36 = .ok (.ifCond .ge 8, 3) := by decide +kernel
theorem dX7_tell_39 : decode cX7_tell 39 = .ok (.bipush (-6), 2) := by decide +kernel
theorem dX7_tell_41 : decode cX7_tell 41 = .ok (.goto 4, 3) := by decide +kernel
theorem dX7_tell_44 : decode cX7_tell 44 = .ok (.iload_n 2, 1) := by decide +kernel
theorem dX7_tell_45 : decode cX7_tell 45 = .ok (.iastore, 1) := by decide +kernel
theorem dX7_tell_46 : decode cX7_tell 46 = .ok (.iload_n 3, 1) := by decide +kernel
theorem dX7_tell_47 : decode cX7_tell 47 = .ok (.ireturn, 1) := by decide +kernel
set_option maxRecDepth 20000 in
theorem ggX7_fade_X7_isTale : GoodIn wsX7_fade wsX7_isTale := goodIn_r _ [5, 6, 7, 8, 4, 9] (by decide +kernel) (by decide +kernel)
set_option maxRecDepth 20000 in
theorem gX7_fade_X7_isTale : GoodIn wsX7_fade (va_wsS RX7 93 yX7_isTale wsX7_isTale) := goodIn_app (goodIn_of _ (by decide +kernel)) ggX7_fade_X7_isTale
theorem dX7_fade_0 : decode cX7_fade 0 = .ok (.iload_n 1, 1) := by decide +kernel
theorem dX7_fade_1 : decode cX7_fade 1 = .ok (.invokestatic 93, 3) := by decide +kernel
theorem dX7_fade_4 : decode cX7_fade 4 = .ok (.ifCond .eq 10, 3) := by decide +kernel
theorem dX7_fade_7 : decode cX7_fade 7 = .ok (.iload_n 2, 1) := by decide +kernel
theorem dX7_fade_8 : decode cX7_fade 8 = .ok (.invokestatic 93, 3) := by decide +kernel
theorem dX7_fade_11 : decode cX7_fade 11 = .ok (.ifCond .ne 5, 3) := by decide +kernel
theorem dX7_fade_14 : decode cX7_fade 14 = .ok (.iconst (-1), 1) := by decide +kernel
theorem dX7_fade_15 : decode cX7_fade 15 = .ok (.ireturn, 1) := by decide +kernel
theorem dX7_fade_16 : decode cX7_fade 16 = .ok (.aload_n 0, 1) := by decide +kernel
theorem dX7_fade_17 : decode cX7_fade 17 = .ok (.getfield 22, 3) := by decide +kernel
theorem dX7_fade_20 : decode cX7_fade 20 = .ok (.iload_n 1, 1) := by decide +kernel
theorem dX7_fade_21 : decode cX7_fade 21 = .ok (.iaload, 1) := by decide +kernel
theorem dX7_fade_22 : decode cX7_fade 22 = .ok (.istore_n 3, 1) := by decide +kernel
theorem dX7_fade_23 : decode cX7_fade 23 = .ok (.aload_n 0, 1) := by decide +kernel
theorem dX7_fade_24 : decode cX7_fade 24 = .ok (.getfield 22, 3) := by decide +kernel
theorem dX7_fade_27 : decode cX7_fade 27 = .ok (.iload_n 1, 1) := by decide +kernel
theorem dX7_fade_28 : decode cX7_fade 28 = .ok (.iload_n 2, 1) := by decide +kernel
theorem dX7_fade_29 : decode cX7_fade 29 = .ok (.iastore, 1) := by decide +kernel
theorem dX7_fade_30 : decode cX7_fade 30 = .ok (.iload_n 3, 1) := by decide +kernel
theorem dX7_fade_31 : decode cX7_fade 31 = .ok (.ireturn, 1) := by decide +kernel
set_option maxRecDepth 20000 in
theorem ggX7_say_X7_in : GoodIn wsX7_say wsX7_in := goodIn_r _ [8] (by decide +kernel) (by decide +kernel)
set_option maxRecDepth 20000 in
theorem gX7_say_X7_in : GoodIn wsX7_say (va_wsS RX7 78 yX7_in wsX7_in) := goodIn_app (goodIn_of _ (by decide +kernel)) ggX7_say_X7_in
theorem dX7_say_0 : decode cX7_say 0 = .ok (.iload_n 1, 1) := by decide +kernel
theorem dX7_say_1 : decode cX7_say 1 = .ok (.i2l, 1) := by decide +kernel
theorem dX7_say_2 : decode cX7_say 2 = .ok (.ldc2_w 96, 3) := by decide +kernel
theorem dX7_say_5 : decode cX7_say 5 = .ok (.ldc2_w 98, 3) := by decide +kernel
theorem dX7_say_8 : decode cX7_say 8 = .ok (.invokestatic 78, 3) := by decide +kernel
theorem dX7_say_11 : decode cX7_say 11 = .ok (.ifCond .ne 6, 3) := by decide +kernel
theorem dX7_say_14 : decode cX7_say 14 = .ok (.bipush (-2), 2) := by decide +kernel
theorem dX7_say_16 : decode cX7_say 16 = .ok (.ireturn, 1) := by decide +kernel
theorem dX7_say_17 : decode cX7_say 17 = .ok (.aload_n 0, 1) := by decide +kernel
theorem dX7_say_18 : decode cX7_say 18 = .ok (.getfield 100, 3) := by decide +kernel
theorem dX7_say_21 : decode cX7_say 21 = .ok (.bipush 60, 2) := by decide +kernel
theorem dX7_say_23 : decode cX7_say 23 = .ok (.if_icmp .ne 6, 3) := by decide +kernel
theorem dX7_say_26 : decode cX7_say 26 = .ok (.bipush (-4), 2) := by decide +kernel
theorem dX7_say_28 : decode cX7_say 28 = .ok (.ireturn, 1) := by decide +kernel
theorem dX7_say_29 : decode cX7_say 29 = .ok (.aload_n 0, 1) := by decide +kernel
theorem dX7_say_30 : decode cX7_say 30 = .ok (.getfield 31, 3) := by decide +kernel
theorem dX7_say_33 : decode cX7_say 33 = .ok (.aload_n 0, 1) := by decide +kernel
theorem dX7_say_34 : decode cX7_say 34 = .ok (.getfield 100, 3) := by decide +kernel
theorem dX7_say_37 : decode cX7_say 37 = .ok (.iload_n 1, 1) := by decide +kernel
theorem dX7_say_38 : decode cX7_say 38 = .ok (.iastore, 1) := by decide +kernel
theorem dX7_say_39 : decode cX7_say 39 = .ok (.aload_n 0, 1) := by decide +kernel
theorem dX7_say_40 : decode cX7_say 40 = .ok (.dup, 1) := by decide +kernel
theorem dX7_say_41 : decode cX7_say 41 = .ok (.getfield 100, 3) := by decide +kernel
theorem dX7_say_44 : decode cX7_say 44 = .ok (.iconst 1, 1) := by decide +kernel
theorem dX7_say_45 : decode cX7_say 45 = .ok (.iadd, 1) := by decide +kernel
theorem dX7_say_46 : decode cX7_say 46 = .ok (.putfield 100, 3) := by decide +kernel
theorem dX7_say_49 : decode cX7_say 49 = .ok (.aload_n 0, 1) := by decide +kernel
theorem dX7_say_50 : decode cX7_say 50 = .ok (.getfield 100, 3) := by decide +kernel
theorem dX7_say_53 : decode cX7_say 53 = .ok (.ireturn, 1) := by decide +kernel
theorem dX7_wipe_0 : decode cX7_wipe 0 = .ok (.aload_n 0, 1) := by decide +kernel
theorem dX7_wipe_1 : decode cX7_wipe 1 = .ok (.getfield 100, 3) := by decide +kernel
theorem dX7_wipe_4 : decode cX7_wipe 4 = .ok (.istore_n 1, 1) := by decide +kernel
theorem dX7_wipe_5 : decode cX7_wipe 5 = .ok (.aload_n 0, 1) := by decide +kernel
theorem dX7_wipe_6 : decode cX7_wipe 6 = .ok (.iconst 0, 1) := by decide +kernel
theorem dX7_wipe_7 : decode cX7_wipe 7 = .ok (.putfield 100, 3) := by decide +kernel
theorem dX7_wipe_10 : decode cX7_wipe 10 = .ok (.iload_n 1, 1) := by decide +kernel
theorem dX7_wipe_11 : decode cX7_wipe 11 = .ok (.ireturn, 1) := by decide +kernel
theorem dX7_close_0 : decode cX7_close 0 = .ok (.aload_n 0, 1) := by decide +kernel
theorem dX7_close_1 : decode cX7_close 1 = .ok (.getfield 34, 3) := by decide +kernel
theorem dX7_close_4 : decode cX7_close 4 = .ok (.aload_n 0, 1) := by decide +kernel
theorem dX7_close_5 : decode cX7_close 5 = .ok (.getfield 103, 3) := by decide +kernel
theorem dX7_close_8 : decode cX7_close 8 = .ok (.iload_n 1, 1) := by decide +kernel
theorem dX7_close_9 : decode cX7_close 9 = .ok (.iastore, 1) := by decide +kernel
theorem dX7_close_10 : decode cX7_close 10 = .ok (.aload_n 0, 1) := by decide +kernel
theorem dX7_close_11 : decode cX7_close 11 = .ok (.getfield 40, 3) := by decide +kernel
theorem dX7_close_14 : decode cX7_close 14 = .ok (.aload_n 0, 1) := by decide +kernel
theorem dX7_close_15 : decode cX7_close 15 = .ok (.getfield 103, 3) := by decide +kernel
theorem dX7_close_18 : decode cX7_close 18 = .ok (.iload_n 2, 1) := by decide +kernel
theorem dX7_close_19 : decode cX7_close 19 = .ok (.iastore, 1) := by decide +kernel
theorem dX7_close_20 : decode cX7_close 20 = .ok (.aload_n 0, 1) := by decide +kernel
theorem dX7_close_21 : decode cX7_close 21 = .ok (.dup, 1) := by decide +kernel
theorem dX7_close_22 : decode cX7_close 22 = .ok (.getfield 103, 3) := by decide +kernel
theorem dX7_close_25 : decode cX7_close 25 = .ok (.iconst 1, 1) := by decide +kernel
theorem dX7_close_26 : decode cX7_close 26 = .ok (.iadd, 1) := by decide +kernel
theorem dX7_close_27 : decode cX7_close 27 = .ok (.putfield 103, 3) := by decide +kernel
theorem dX7_close_30 : decode cX7_close 30 = .ok (.iconst 0, 1) := by decide +kernel
theorem dX7_close_31 : decode cX7_close 31 = .ok (.ireturn, 1) := by decide +kernel
set_option maxRecDepth 20000 in
theorem ggX7_begin_X7_in : GoodIn wsX7_begin wsX7_in := goodIn_r _ [8] (by decide +kernel) (by decide +kernel)
set_option maxRecDepth 20000 in
theorem gX7_begin_X7_in : GoodIn wsX7_begin (va_wsS RX7 78 yX7_in wsX7_in) := goodIn_app (goodIn_of _ (by decide +kernel)) ggX7_begin_X7_in
set_option maxRecDepth 20000 in
theorem ggX7_begin_X7_close : GoodIn wsX7_begin wsX7_close := goodIn_r _ [12, 13, 4, 14, 15, 16, 17, 18, 19, 20, 21, 22, 23, 24, 25, 26, 27, 28, 29, 30, 31, 32, 33, 34, 35, 36, 37, 38, 39, 40, 41, 42, 43, 44, 45, 46, 47, 48] (by decide +kernel) (by decide +kernel)
set_option maxRecDepth 20000 in
theorem gX7_begin_X7_close : GoodIn wsX7_begin (wsV RX7 110 RX7 yX7_close wsX7_close) := goodIn_app (goodIn_of _ (by decide +kernel)) ggX7_begin_X7_close
theorem dX7_begin_0 : decode cX7_begin 0 = .ok (.iload_n 1, 1) := by decide +kernel
theorem dX7_begin_1 : decode cX7_begin 1 = .ok (.i2l, 1) := by decide +kernel
theorem dX7_begin_2 : decode cX7_begin 2 = .ok (.ldc2_w 106, 3) := by decide +kernel
theorem dX7_begin_5 : decode cX7_begin 5 = .ok (.ldc2_w 108, 3) := by decide +kernel
theorem dX7_begin_8 : decode cX7_begin 8 = .ok (.invokestatic 78, 3) := by decide +kernel
theorem dX7_begin_11 : decode cX7_begin 11 = .ok (.istore_n 2, 1) := by decide +kernel
theorem dX7_begin_12 : decode cX7_begin 12 = .ok (.aload_n 0, 1) := by decide +kernel
theorem dX7_begin_13 : decode cX7_begin 13 = .ok (.getfield 37, 3) := by decide +kernel
theorem dX7_begin_16 : decode cX7_begin 16 = .ok (.aload_n 0, 1) := by decide +kernel
theorem dX7_begin_17 : decode cX7_begin 17 = .ok (.getfield 103, 3) := by decide +kernel
theorem dX7_begin_20 : decode cX7_begin 20 = .ok (.iload_n 2, 1) := by decide +kernel
theorem dX7_begin_21 : decode cX7_begin 21 = .ok (.ifCond .eq 10, 3) := by decide +kernel
theorem dX7_begin_24 : decode cX7_begin 24 = .ok (.iload_n 1, 1) := by decide +kernel
theorem dX7_begin_25 : decode cX7_begin 25 = .ok (.bipush 65, 2) := by decide +kernel
theorem dX7_begin_27 : decode cX7_begin 27 = .ok (.isub, 1) := by decide +kernel
theorem dX7_begin_28 : decode cX7_begin 28 = .ok (.goto 5, 3) := by decide +kernel
theorem dX7_begin_31 : decode cX7_begin 31 = .ok (.bipush 10, 2) := by decide +kernel
theorem dX7_begin_33 : decode cX7_begin 33 = .ok (.iastore, 1) := by decide +kernel
theorem dX7_begin_34 : decode cX7_begin 34 = .ok (.iload_n 1, 1) := by decide +kernel
theorem dX7_begin_35 : decode cX7_begin 35 = .ok (.lookupswitch 64 #[(42, 43), (46, 57), (61, 41), (126, 50)], 41) := by decide +kernel
theorem dX7_begin_76 : decode cX7_begin 76 = .ok (.iconst 1, 1) := by decide +kernel
theorem dX7_begin_77 : decode cX7_begin 77 = .ok (.ireturn, 1) := by decide +kernel
theorem dX7_begin_78 : decode cX7_begin 78 = .ok (.aload_n 0, 1) := by decide +kernel
theorem dX7_begin_79 : decode cX7_begin 79 = .ok (.iconst 2, 1) := by decide +kernel
theorem dX7_begin_80 : decode cX7_begin 80 = .ok (.iconst 0, 1) := by decide +kernel
theorem dX7_begin_81 : decode cX7_begin 81 = .ok (.invokevirtual 110, 3) := by decide +kernel
theorem dX7_begin_84 : decode cX7_begin 84 = .ok (.ireturn, 1) := by decide +kernel
theorem dX7_begin_85 : decode cX7_begin 85 = .ok (.aload_n 0, 1) := by decide +kernel
theorem dX7_begin_86 : decode cX7_begin 86 = .ok (.iconst 3, 1) := by decide +kernel
theorem dX7_begin_87 : decode cX7_begin 87 = .ok (.iconst 0, 1) := by decide +kernel
theorem dX7_begin_88 : decode cX7_begin 88 = .ok (.invokevirtual 110, 3) := by decide +kernel
theorem dX7_begin_91 : decode cX7_begin 91 = .ok (.ireturn, 1) := by decide +kernel
theorem dX7_begin_92 : decode cX7_begin 92 = .ok (.aload_n 0, 1) := by decide +kernel
theorem dX7_begin_93 : decode cX7_begin 93 = .ok (.iconst 4, 1) := by decide +kernel
theorem dX7_begin_94 : decode cX7_begin 94 = .ok (.iconst 0, 1) := by decide +kernel
theorem dX7_begin_95 : decode cX7_begin 95 = .ok (.invokevirtual 110, 3) := by decide +kernel
theorem dX7_begin_98 : decode cX7_begin 98 = .ok (.ireturn, 1) := by decide +kernel
theorem dX7_begin_99 : decode cX7_begin 99 = .ok (.iload_n 2, 1) := by decide +kernel
theorem dX7_begin_100 : decode cX7_begin 100 = .ok (.ifCond .ne 9, 3) := by decide +kernel
theorem dX7_begin_103 : decode cX7_begin 103 = .ok (.iload_n 1, 1) := by decide +kernel
theorem dX7_begin_104 : decode cX7_begin 104 = .ok (.bipush 107, 2) := by decide +kernel
theorem dX7_begin_106 : decode cX7_begin 106 = .ok (.if_icmp .ne 12, 3) := by decide +kernel
theorem dX7_begin_109 : decode cX7_begin 109 = .ok (.aload_n 0, 1) := by decide +kernel
theorem dX7_begin_110 : decode cX7_begin 110 = .ok (.iconst 1, 1) := by decide +kernel
theorem dX7_begin_111 : decode cX7_begin 111 = .ok (.iconst 0, 1) := by decide +kernel
theorem dX7_begin_112 : decode cX7_begin 112 = .ok (.invokevirtual 110, 3) := by decide +kernel
theorem dX7_begin_115 : decode cX7_begin 115 = .ok (.goto 5, 3) := by decide +kernel
theorem dX7_begin_118 : decode cX7_begin 118 = .ok (.bipush (-6), 2) := by decide +kernel
theorem dX7_begin_120 : decode cX7_begin 120 = .ok (.ireturn, 1) := by decide +kernel
set_option maxRecDepth 20000 in
theorem ggX7_readOn_X7_begin : GoodIn wsX7_readOn wsX7_begin := goodIn_r _ [10, 11, 12, 1, 2, 13, 14, 9, 15, 16, 17, 18, 19, 20, 21, 22, 23, 24, 25, 26, 27, 28, 29, 30, 31, 32, 33, 34, 35, 36, 37, 38, 39, 40, 41, 42, 43, 44, 45, 46, 47, 48, 49, 50, 51, 52, 53, 54, 55] (by decide +kernel) (by decide +kernel)
set_option maxRecDepth 20000 in
theorem gX7_readOn_X7_begin : GoodIn wsX7_readOn (wsV RX7 114 RX7 yX7_begin wsX7_begin) := goodIn_app (goodIn_of _ (by decide +kernel)) ggX7_readOn_X7_begin
set_option maxRecDepth 20000 in
theorem ggX7_readOn_X7_in : GoodIn wsX7_readOn wsX7_in := goodIn_r _ [15] (by decide +kernel) (by decide +kernel)
set_option maxRecDepth 20000 in
theorem gX7_readOn_X7_in : GoodIn wsX7_readOn (va_wsS RX7 78 yX7_in wsX7_in) := goodIn_app (goodIn_of _ (by decide +kernel)) ggX7_readOn_X7_in
set_option maxRecDepth 20000 in
theorem ggX7_readOn_X7_close : GoodIn wsX7_readOn wsX7_close := goodIn_r _ [19, 20, 2, 21, 22, 23, 24, 25, 26, 27, 28, 29, 30, 31, 32, 33, 34, 35, 36, 37, 38, 39, 40, 41, 42, 43, 44, 45, 46, 47, 48, 49, 50, 51, 52, 53, 54, 55] (by decide +kernel) (by decide +kernel)
set_option maxRecDepth 20000 in
theorem gX7_readOn_X7_close : GoodIn wsX7_readOn (wsV RX7 110 RX7 yX7_close wsX7_close) := goodIn_app (goodIn_of _ (by decide +kernel)) ggX7_readOn_X7_close
theorem dX7_readOn_0 : decode cX7_readOn 0 = .ok (.iload_n 1, 1) := by decide +kernel
theorem dX7_readOn_1 : decode cX7_readOn 1 = .ok (.ifCond .ne 9, 3) := by decide +kernel
theorem dX7_readOn_4 : decode cX7_readOn 4 = .ok (.aload_n 0, 1) := by decide +kernel
theorem dX7_readOn_5 : decode cX7_readOn 5 = .ok (.iload_n 2, 1) := by decide +kernel
theorem dX7_readOn_6 : decode cX7_readOn 6 = .ok (.invokevirtual 114, 3) := by decide +kernel
theorem dX7_readOn_9 : decode cX7_readOn 9 = .ok (.ireturn, 1) := by decide +kernel
theorem dX7_readOn_10 : decode cX7_readOn 10 = .ok (.iload_n 1, 1) := by decide +kernel
theorem dX7_readOn_11 : decode cX7_readOn 11 = .ok (.iconst 1, 1) := by decide +kernel
theorem dX7_readOn_12 : decode cX7_readOn 12 = .ok (.if_icmp .ne 37, 3) := by decide +kernel
theorem dX7_readOn_15 : decode cX7_readOn 15 = .ok (.aload_n 0, 1) := by decide +kernel
theorem dX7_readOn_16 : decode cX7_readOn 16 = .ok (.getfield 37, 3) := by decide +kernel
theorem dX7_readOn_19 : decode cX7_readOn 19 = .ok (.aload_n 0, 1) := by decide +kernel
theorem dX7_readOn_20 : decode cX7_readOn 20 = .ok (.getfield 103, 3) := by decide +kernel
theorem dX7_readOn_23 : decode cX7_readOn 23 = .ok (.iload_n 2, 1) := by decide +kernel
theorem dX7_readOn_24 : decode cX7_readOn 24 = .ok (.bipush 48, 2) := by decide +kernel
theorem dX7_readOn_26 : decode cX7_readOn 26 = .ok (.isub, 1) := by decide +kernel
theorem dX7_readOn_27 : decode cX7_readOn 27 = .ok (.iastore, 1) := by decide +kernel
theorem dX7_readOn_28 : decode cX7_readOn 28 = .ok (.iload_n 2, 1) := by decide +kernel
theorem dX7_readOn_29 : decode cX7_readOn 29 = .ok (.i2l, 1) := by decide +kernel
theorem dX7_readOn_30 : decode cX7_readOn 30 = .ok (.ldc2_w 118, 3) := by decide +kernel
theorem dX7_readOn_33 : decode cX7_readOn 33 = .ok (.ldc2_w 120, 3) := by decide +kernel
theorem dX7_readOn_36 : decode cX7_readOn 36 = .ok (.invokestatic 78, 3) := by decide +kernel
theorem dX7_readOn_39 : decode cX7_readOn 39 = .ok (.ifCond .eq 7, 3) := by decide +kernel
theorem dX7_readOn_42 : decode cX7_readOn 42 = .ok (.iconst 2, 1) := by decide +kernel
theorem dX7_readOn_43 : decode cX7_readOn 43 = .ok (.goto 5, 3) := by decide +kernel
theorem dX7_readOn_46 : decode cX7_readOn 46 = .ok (.bipush (-6), 2) := by decide +kernel
theorem dX7_readOn_48 : decode cX7_readOn 48 = .ok (.ireturn, 1) := by decide +kernel
theorem dX7_readOn_49 : decode cX7_readOn 49 = .ok (.iload_n 2, 1) := by decide +kernel
theorem dX7_readOn_50 : decode cX7_readOn 50 = .ok (.i2l, 1) := by decide +kernel
theorem dX7_readOn_51 : decode cX7_readOn 51 = .ok (.ldc2_w 122, 3) := by decide +kernel
theorem dX7_readOn_54 : decode cX7_readOn 54 = .ok (.ldc2_w 120, 3) := by decide +kernel
theorem dX7_readOn_57 : decode cX7_readOn 57 = .ok (.invokestatic 78, 3) := by decide +kernel
theorem dX7_readOn_60 : decode cX7_readOn 60 = .ok (.ifCond .eq 18, 3) := by decide +kernel
theorem dX7_readOn_63 : decode cX7_readOn 63 = .ok (.aload_n 0, 1) := by decide +kernel
theorem dX7_readOn_64 : decode cX7_readOn 64 = .ok (.iconst 0, 1) := by decide +kernel
theorem dX7_readOn_65 : decode cX7_readOn 65 = .ok (.bipush 10, 2) := by decide +kernel
theorem dX7_readOn_67 : decode cX7_readOn 67 = .ok (.iload_n 2, 1) := by decide +kernel
theorem dX7_readOn_68 : decode cX7_readOn 68 = .ok (.bipush 48, 2) := by decide +kernel
theorem dX7_readOn_70 : decode cX7_readOn 70 = .ok (.isub, 1) := by decide +kernel
theorem dX7_readOn_71 : decode cX7_readOn 71 = .ok (.imul, 1) := by decide +kernel
theorem dX7_readOn_72 : decode cX7_readOn 72 = .ok (.invokevirtual 110, 3) := by decide +kernel
theorem dX7_readOn_75 : decode cX7_readOn 75 = .ok (.goto 5, 3) := by decide +kernel
theorem dX7_readOn_78 : decode cX7_readOn 78 = .ok (.bipush (-6), 2) := by decide +kernel
theorem dX7_readOn_80 : decode cX7_readOn 80 = .ok (.ireturn, 1) := by decide +kernel
set_option maxRecDepth 20000 in
theorem ggX7_fault_X7_readOn : GoodIn wsX7_fault wsX7_readOn := goodIn_r _ [8, 9, 1, 10, 11, 12, 13, 14, 15, 7, 16, 17, 18, 19, 20, 21, 22, 23, 24, 25, 26, 27, 28, 29, 30, 31, 32, 33, 34, 35, 36, 37, 38, 39, 40, 41, 42, 43, 44, 45, 46, 47, 48, 49, 50, 51, 52, 53, 54, 55, 56, 57, 58, 59, 60, 61] (by decide +kernel) (by decide +kernel)
set_option maxRecDepth 20000 in
theorem gX7_fault_X7_readOn : GoodIn wsX7_fault (wsV RX7 124 RX7 yX7_readOn wsX7_readOn) := goodIn_app (goodIn_of _ (by decide +kernel)) ggX7_fault_X7_readOn
theorem dX7_fault_0 : decode cX7_fault 0 = .ok (.aload_n 0, 1) := by decide +kernel
theorem dX7_fault_1 : decode cX7_fault 1 = .ok (.iconst 0, 1) := by decide +kernel
theorem dX7_fault_2 : decode cX7_fault 2 = .ok (.putfield 103, 3) := by decide +kernel
theorem dX7_fault_5 : decode cX7_fault 5 = .ok (.iconst 0, 1) := by decide +kernel
theorem dX7_fault_6 : decode cX7_fault 6 = .ok (.istore_n 1, 1) := by decide +kernel
theorem dX7_fault_7 : decode cX7_fault 7 = .ok (.iconst 0, 1) := by decide +kernel
theorem dX7_fault_8 : decode cX7_fault 8 = .ok (.istore_n 2, 1) := by decide +kernel
theorem dX7_fault_9 : decode cX7_fault 9 = .ok (.iload_n 2, 1) := by decide +kernel
theorem dX7_fault_10 : decode cX7_fault 10 = .ok (.aload_n 0, 1) := by decide +kernel
theorem dX7_fault_11 : decode cX7_fault 11 = .ok (.getfield 100, 3) := by decide +kernel
theorem dX7_fault_14 : decode cX7_fault 14 = .ok (.if_icmp .ge 27, 3) := by decide +kernel
theorem dX7_fault_17 : decode cX7_fault 17 = .ok (.aload_n 0, 1) := by decide +kernel
theorem dX7_fault_18 : decode cX7_fault 18 = .ok (.iload_n 1, 1) := by decide +kernel
theorem dX7_fault_19 : decode cX7_fault 19 = .ok (.aload_n 0, 1) := by decide +kernel
theorem dX7_fault_20 : decode cX7_fault 20 = .ok (.getfield 31, 3) := by decide +kernel
theorem dX7_fault_23 : decode cX7_fault 23 = .ok (.iload_n 2, 1) := by decide +kernel
theorem dX7_fault_24 : decode cX7_fault 24 = .ok (.iaload, 1) := by decide +kernel
theorem dX7_fault_25 : decode cX7_fault 25 = .ok (.invokevirtual 124, 3) := by decide +kernel
theorem dX7_fault_28 : decode cX7_fault 28 = .ok (.istore_n 1, 1) := by decide +kernel
theorem dX7_fault_29 : decode cX7_fault 29 = .ok (.iload_n 1, 1) := by decide +kernel
theorem dX7_fault_30 : decode cX7_fault 30 = .ok (.ifCond .ge 5, 3) := by decide +kernel
theorem dX7_fault_33 : decode cX7_fault 33 = .ok (.iload_n 2, 1) := by decide +kernel
theorem dX7_fault_34 : decode cX7_fault 34 = .ok (.ireturn, 1) := by decide +kernel
theorem dX7_fault_35 : decode cX7_fault 35 = .ok (.iinc 2 1, 3) := by decide +kernel
theorem dX7_fault_38 : decode cX7_fault 38 = .ok (.goto (-29), 3) := by decide +kernel
theorem dX7_fault_41 : decode cX7_fault 41 = .ok (.iload_n 1, 1) := by decide +kernel
theorem dX7_fault_42 : decode cX7_fault 42 = .ok (.ifCond .ne 8, 3) := by decide +kernel
theorem dX7_fault_45 : decode cX7_fault 45 = .ok (.bipush (-6), 2) := by decide +kernel
theorem dX7_fault_47 : decode cX7_fault 47 = .ok (.goto 7, 3) := by decide +kernel
theorem dX7_fault_50 : decode cX7_fault 50 = .ok (.aload_n 0, 1) := by decide +kernel
theorem dX7_fault_51 : decode cX7_fault 51 = .ok (.getfield 100, 3) := by decide +kernel
theorem dX7_fault_54 : decode cX7_fault 54 = .ok (.ireturn, 1) := by decide +kernel
theorem dX7_whyNot_0 : decode cX7_whyNot 0 = .ok (.iload_n 1, 1) := by decide +kernel
theorem dX7_whyNot_1 : decode cX7_whyNot 1 = .ok (.tableswitch 108 0 3 #[31, 46, 69, 95], 31) := by decide +kernel
theorem dX7_whyNot_32 : decode cX7_whyNot 32 = .ok (.aload_n 0, 1) := by decide +kernel
theorem dX7_whyNot_33 : decode cX7_whyNot 33 = .ok (.getfield 72, 3) := by decide +kernel
theorem dX7_whyNot_36 : decode cX7_whyNot 36 = .ok (.bipush 10, 2) := by decide +kernel
theorem dX7_whyNot_38 : decode cX7_whyNot 38 = .ok (.if_icmp .ne 7, 3) := by decide +kernel
theorem dX7_whyNot_41 : decode cX7_whyNot 41 = .ok (.iconst 0, 1) := by decide +kernel
theorem dX7_whyNot_42 : decode cX7_whyNot 42 = .ok (.goto 4, 3) := by decide +kernel
theorem dX7_whyNot_45 : decode cX7_whyNot 45 = .ok (.iconst 1, 1) := by decide +kernel
theorem dX7_whyNot_46 : decode cX7_whyNot 46 = .ok (.ireturn, 1) := by decide +kernel
theorem dX7_whyNot_47 : decode cX7_whyNot 47 = .ok (.aload_n 0, 1) := by decide +kernel
theorem dX7_whyNot_48 : decode cX7_whyNot 48 = .ok (.getfield 7, 3) := by decide +kernel
theorem dX7_whyNot_51 : decode cX7_whyNot 51 = .ok (.bipush 11, 2) := by decide +kernel
theorem dX7_whyNot_53 : decode cX7_whyNot 53 = .ok (.aload_n 0, 1) := by decide +kernel
theorem dX7_whyNot_54 : decode cX7_whyNot 54 = .ok (.getfield 72, 3) := by decide +kernel
theorem dX7_whyNot_57 : decode cX7_whyNot 57 = .ok (.imul, 1) := by decide +kernel
theorem dX7_whyNot_58 : decode cX7_whyNot 58 = .ok (.iload_n 2, 1) := by decide +kernel
theorem dX7_whyNot_59 : decode cX7_whyNot 59 = .ok (.iadd, 1) := by decide +kernel
theorem dX7_whyNot_60 : decode cX7_whyNot 60 = .ok (.iaload, 1) := by decide +kernel
theorem dX7_whyNot_61 : decode cX7_whyNot 61 = .ok (.ifCond .ne 7, 3) := by decide +kernel
theorem dX7_whyNot_64 : decode cX7_whyNot 64 = .ok (.iconst 2, 1) := by decide +kernel
theorem dX7_whyNot_65 : decode cX7_whyNot 65 = .ok (.goto 4, 3) := by decide +kernel
theorem dX7_whyNot_68 : decode cX7_whyNot 68 = .ok (.iconst 0, 1) := by decide +kernel
theorem dX7_whyNot_69 : decode cX7_whyNot 69 = .ok (.ireturn, 1) := by decide +kernel
theorem dX7_whyNot_70 : decode cX7_whyNot 70 = .ok (.aload_n 0, 1) := by decide +kernel
theorem dX7_whyNot_71 : decode cX7_whyNot 71 = .ok (.getfield 72, 3) := by decide +kernel
theorem dX7_whyNot_74 : decode cX7_whyNot 74 = .ok (.bipush 10, 2) := by decide +kernel
theorem dX7_whyNot_76 : decode cX7_whyNot 76 = .ok (.if_icmp .ne 7, 3) := by decide +kernel
theorem dX7_whyNot_79 : decode cX7_whyNot 79 = .ok (.iconst 1, 1) := by decide +kernel
theorem dX7_whyNot_80 : decode cX7_whyNot 80 = .ok (.goto 15, 3) := by decide +kernel
theorem dX7_whyNot_83 : decode cX7_whyNot 83 = .ok (.aload_n 0, 1) := by decide +kernel
theorem dX7_whyNot_84 : decode cX7_whyNot 84 = .ok (.getfield 127, 3) := by decide +kernel
theorem dX7_whyNot_87 : decode cX7_whyNot 87 = .ok (.ifCond .ne 7, 3) := by decide +kernel
theorem dX7_whyNot_90 : decode cX7_whyNot 90 = .ok (.iconst 3, 1) := by decide +kernel
theorem dX7_whyNot_91 : decode cX7_whyNot 91 = .ok (.goto 4, 3) := by decide +kernel
theorem dX7_whyNot_94 : decode cX7_whyNot 94 = .ok (.iconst 0, 1) := by decide +kernel
theorem dX7_whyNot_95 : decode cX7_whyNot 95 = .ok (.ireturn, 1) := by decide +kernel
theorem dX7_whyNot_96 : decode cX7_whyNot 96 = .ok (.aload_n 0, 1) := by decide +kernel
theorem dX7_whyNot_97 : decode cX7_whyNot 97 = .ok (.getfield 127, 3) := by decide +kernel
theorem dX7_whyNot_100 : decode cX7_whyNot 100 = .ok (.ifCond .ne 7, 3) := by decide +kernel
theorem dX7_whyNot_103 : decode cX7_whyNot 103 = .ok (.iconst 3, 1) := by decide +kernel
theorem dX7_whyNot_104 : decode cX7_whyNot 104 = .ok (.goto 4, 3) := by decide +kernel
theorem dX7_whyNot_107 : decode cX7_whyNot 107 = .ok (.iconst 0, 1) := by decide +kernel
theorem dX7_whyNot_108 : decode cX7_whyNot 108 = .ok (.ireturn, 1) := by decide +kernel
theorem dX7_whyNot_109 : decode cX7_whyNot 109 = .ok (.aload_n 0, 1) := by decide +kernel
theorem dX7_whyNot_110 : decode cX7_whyNot 110 = .ok (.getfield 130, 3) := by decide +kernel
theorem dX7_whyNot_113 : decode cX7_whyNot 113 = .ok (.bipush 99, 2) := by decide +kernel
theorem dX7_whyNot_115 : decode cX7_whyNot 115 = .ok (.if_icmp .ne 7, 3) := by decide +kernel
theorem dX7_whyNot_118 : decode cX7_whyNot 118 = .ok (.iconst 4, 1) := by decide +kernel
theorem dX7_whyNot_119 : decode cX7_whyNot 119 = .ok (.goto 4, 3) := by decide +kernel
theorem dX7_whyNot_122 : decode cX7_whyNot 122 = .ok (.iconst 0, 1) := by decide +kernel
theorem dX7_whyNot_123 : decode cX7_whyNot 123 = .ok (.ireturn, 1) := by decide +kernel
theorem dX7_cooled_0 : decode cX7_cooled 0 = .ok (.iload_n 0, 1) := by decide +kernel
theorem dX7_cooled_1 : decode cX7_cooled 1 = .ok (.iload_n 1, 1) := by decide +kernel
theorem dX7_cooled_2 : decode cX7_cooled 2 = .ok (.if_icmp .le 9, 3) := by decide +kernel
theorem dX7_cooled_5 : decode cX7_cooled 5 = .ok (.iload_n 0, 1) := by decide +kernel
theorem dX7_cooled_6 : decode cX7_cooled 6 = .ok (.iload_n 1, 1) := by decide +kernel
theorem dX7_cooled_7 : decode cX7_cooled 7 = .ok (.isub, 1) := by decide +kernel
theorem dX7_cooled_8 : decode cX7_cooled 8 = .ok (.goto 4, 3) := by decide +kernel
theorem dX7_cooled_11 : decode cX7_cooled 11 = .ok (.iconst 0, 1) := by decide +kernel
theorem dX7_cooled_12 : decode cX7_cooled 12 = .ok (.ireturn, 1) := by decide +kernel
set_option maxRecDepth 20000 in
theorem ggX7_put_X7_cooled : GoodIn wsX7_put wsX7_cooled := goodIn_r _ [10] (by decide +kernel) (by decide +kernel)
set_option maxRecDepth 20000 in
theorem gX7_put_X7_cooled : GoodIn wsX7_put (va_wsS RX7 133 yX7_cooled wsX7_cooled) := goodIn_app (goodIn_of _ (by decide +kernel)) ggX7_put_X7_cooled
theorem dX7_put_0 : decode cX7_put 0 = .ok (.aload_n 0, 1) := by decide +kernel
theorem dX7_put_1 : decode cX7_put 1 = .ok (.getfield 72, 3) := by decide +kernel
theorem dX7_put_4 : decode cX7_put 4 = .ok (.istore_n 1, 1) := by decide +kernel
theorem dX7_put_5 : decode cX7_put 5 = .ok (.aload_n 0, 1) := by decide +kernel
theorem dX7_put_6 : decode cX7_put 6 = .ok (.getfield 16, 3) := by decide +kernel
theorem dX7_put_9 : decode cX7_put 9 = .ok (.iload_n 1, 1) := by decide +kernel
theorem dX7_put_10 : decode cX7_put 10 = .ok (.iaload, 1) := by decide +kernel
theorem dX7_put_11 : decode cX7_put 11 = .ok (.iconst 1, 1) := by decide +kernel
theorem dX7_put_12 : decode cX7_put 12 = .ok (.if_icmp .ne 17, 3) := by decide +kernel
theorem dX7_put_15 : decode cX7_put 15 = .ok (.aload_n 0, 1) := by decide +kernel
theorem dX7_put_16 : decode cX7_put 16 = .ok (.aload_n 0, 1) := by decide +kernel
theorem dX7_put_17 : decode cX7_put 17 = .ok (.getfield 127, 3) := by decide +kernel
theorem dX7_put_20 : decode cX7_put 20 = .ok (.bipush 10, 2) := by decide +kernel
theorem dX7_put_22 : decode cX7_put 22 = .ok (.invokestatic 133, 3) := by decide +kernel
theorem dX7_put_25 : decode cX7_put 25 = .ok (.putfield 127, 3) := by decide +kernel
theorem dX7_put_28 : decode cX7_put 28 = .ok (.return_, 1) := by decide +kernel
theorem dX7_put_29 : decode cX7_put 29 = .ok (.aload_n 0, 1) := by decide +kernel
theorem dX7_put_30 : decode cX7_put 30 = .ok (.getfield 127, 3) := by decide +kernel
theorem dX7_put_33 : decode cX7_put 33 = .ok (.bipush 9, 2) := by decide +kernel
theorem dX7_put_35 : decode cX7_put 35 = .ok (.aload_n 0, 1) := by decide +kernel
theorem dX7_put_36 : decode cX7_put 36 = .ok (.getfield 13, 3) := by decide +kernel
theorem dX7_put_39 : decode cX7_put 39 = .ok (.iload_n 1, 1) := by decide +kernel
theorem dX7_put_40 : decode cX7_put 40 = .ok (.iaload, 1) := by decide +kernel
theorem dX7_put_41 : decode cX7_put 41 = .ok (.imul, 1) := by decide +kernel
theorem dX7_put_42 : decode cX7_put 42 = .ok (.if_icmp .le 16, 3) := by decide +kernel
theorem dX7_put_45 : decode cX7_put 45 = .ok (.aload_n 0, 1) := by decide +kernel
theorem dX7_put_46 : decode cX7_put 46 = .ok (.getfield 19, 3) := by decide +kernel
theorem dX7_put_49 : decode cX7_put 49 = .ok (.iload_n 1, 1) := by decide +kernel
theorem dX7_put_50 : decode cX7_put 50 = .ok (.aload_n 0, 1) := by decide +kernel
theorem dX7_put_51 : decode cX7_put 51 = .ok (.getfield 136, 3) := by decide +kernel
theorem dX7_put_54 : decode cX7_put 54 = .ok (.iastore, 1) := by decide +kernel
theorem dX7_put_55 : decode cX7_put 55 = .ok (.goto 33, 3) := by decide +kernel
theorem dX7_put_58 : decode cX7_put 58 = .ok (.aload_n 0, 1) := by decide +kernel
theorem dX7_put_59 : decode cX7_put 59 = .ok (.getfield 13, 3) := by decide +kernel
theorem dX7_put_62 : decode cX7_put 62 = .ok (.iload_n 1, 1) := by decide +kernel
theorem dX7_put_63 : decode cX7_put 63 = .ok (.aload_n 0, 1) := by decide +kernel
theorem dX7_put_64 : decode cX7_put 64 = .ok (.getfield 13, 3) := by decide +kernel
theorem dX7_put_67 : decode cX7_put 67 = .ok (.iload_n 1, 1) := by decide +kernel
theorem dX7_put_68 : decode cX7_put 68 = .ok (.iaload, 1) := by decide +kernel
theorem dX7_put_69 : decode cX7_put 69 = .ok (.bipush 9, 2) := by decide +kernel
theorem dX7_put_71 : decode cX7_put 71 = .ok (.if_icmp .ge 14, 3) := by decide +kernel
theorem dX7_put_74 : decode cX7_put 74 = .ok (.aload_n 0, 1) := by decide +kernel
theorem dX7_put_75 : decode cX7_put 75 = .ok (.getfield 13, 3) := by decide +kernel
theorem dX7_put_78 : decode cX7_put 78 = .ok (.iload_n 1, 1) := by decide +kernel
theorem dX7_put_79 : decode cX7_put 79 = .ok (.iaload, 1) := by decide +kernel
theorem dX7_put_80 : decode cX7_put 80 = .ok (.iconst 1, 1) := by decide +kernel
theorem dX7_put_81 : decode cX7_put 81 = .ok (.iadd, 1) := by decide +kernel
theorem dX7_put_82 : decode cX7_put 82 = .ok (.goto 5, 3) := by decide +kernel
theorem dX7_put_85 : decode cX7_put 85 = .ok (.bipush 9, 2) := by decide +kernel
theorem dX7_put_87 : decode cX7_put 87 = .ok (.iastore, 1) := by decide +kernel
theorem dX7_put_88 : decode cX7_put 88 = .ok (.aload_n 0, 1) := by decide +kernel
theorem dX7_put_89 : decode cX7_put 89 = .ok (.aload_n 0, 1) := by decide +kernel
theorem dX7_put_90 : decode cX7_put 90 = .ok (.getfield 127, 3) := by decide +kernel
theorem dX7_put_93 : decode cX7_put 93 = .ok (.iconst 5, 1) := by decide +kernel
theorem dX7_put_94 : decode cX7_put 94 = .ok (.invokestatic 133, 3) := by decide +kernel
theorem dX7_put_97 : decode cX7_put 97 = .ok (.putfield 127, 3) := by decide +kernel
theorem dX7_put_100 : decode cX7_put 100 = .ok (.return_, 1) := by decide +kernel
theorem dX7_fill_0 : decode cX7_fill 0 = .ok (.aload_n 0, 1) := by decide +kernel
theorem dX7_fill_1 : decode cX7_fill 1 = .ok (.iload_n 1, 1) := by decide +kernel
theorem dX7_fill_2 : decode cX7_fill 2 = .ok (.putfield 136, 3) := by decide +kernel
theorem dX7_fill_5 : decode cX7_fill 5 = .ok (.aload_n 0, 1) := by decide +kernel
theorem dX7_fill_6 : decode cX7_fill 6 = .ok (.iload_n 2, 1) := by decide +kernel
theorem dX7_fill_7 : decode cX7_fill 7 = .ok (.putfield 127, 3) := by decide +kernel
theorem dX7_fill_10 : decode cX7_fill 10 = .ok (.return_, 1) := by decide +kernel
set_option maxRecDepth 20000 in
theorem ggX7_carry_X7_cooled : GoodIn wsX7_carry wsX7_cooled := goodIn_r _ [7] (by decide +kernel) (by decide +kernel)
set_option maxRecDepth 20000 in
theorem gX7_carry_X7_cooled : GoodIn wsX7_carry (va_wsS RX7 133 yX7_cooled wsX7_cooled) := goodIn_app (goodIn_of _ (by decide +kernel)) ggX7_carry_X7_cooled
theorem dX7_carry_0 : decode cX7_carry 0 = .ok (.aload_n 0, 1) := by decide +kernel
theorem dX7_carry_1 : decode cX7_carry 1 = .ok (.aload_n 0, 1) := by decide +kernel
theorem dX7_carry_2 : decode cX7_carry 2 = .ok (.getfield 127, 3) := by decide +kernel
theorem dX7_carry_5 : decode cX7_carry 5 = .ok (.aload_n 0, 1) := by decide +kernel
theorem dX7_carry_6 : decode cX7_carry 6 = .ok (.getfield 7, 3) := by decide +kernel
theorem dX7_carry_9 : decode cX7_carry 9 = .ok (.bipush 11, 2) := by decide +kernel
theorem dX7_carry_11 : decode cX7_carry 11 = .ok (.aload_n 0, 1) := by decide +kernel
theorem dX7_carry_12 : decode cX7_carry 12 = .ok (.getfield 72, 3) := by decide +kernel
theorem dX7_carry_15 : decode cX7_carry 15 = .ok (.imul, 1) := by decide +kernel
theorem dX7_carry_16 : decode cX7_carry 16 = .ok (.iload_n 1, 1) := by decide +kernel
theorem dX7_carry_17 : decode cX7_carry 17 = .ok (.iadd, 1) := by decide +kernel
theorem dX7_carry_18 : decode cX7_carry 18 = .ok (.iaload, 1) := by decide +kernel
theorem dX7_carry_19 : decode cX7_carry 19 = .ok (.invokestatic 133, 3) := by decide +kernel
theorem dX7_carry_22 : decode cX7_carry 22 = .ok (.putfield 127, 3) := by decide +kernel
theorem dX7_carry_25 : decode cX7_carry 25 = .ok (.aload_n 0, 1) := by decide +kernel
theorem dX7_carry_26 : decode cX7_carry 26 = .ok (.iload_n 1, 1) := by decide +kernel
theorem dX7_carry_27 : decode cX7_carry 27 = .ok (.putfield 72, 3) := by decide +kernel
theorem dX7_carry_30 : decode cX7_carry 30 = .ok (.return_, 1) := by decide +kernel
theorem dX7_stir_0 : decode cX7_stir 0 = .ok (.aload_n 0, 1) := by decide +kernel
theorem dX7_stir_1 : decode cX7_stir 1 = .ok (.aload_n 0, 1) := by decide +kernel
theorem dX7_stir_2 : decode cX7_stir 2 = .ok (.getfield 127, 3) := by decide +kernel
theorem dX7_stir_5 : decode cX7_stir 5 = .ok (.bipush 10, 2) := by decide +kernel
theorem dX7_stir_7 : decode cX7_stir 7 = .ok (.iadd, 1) := by decide +kernel
theorem dX7_stir_8 : decode cX7_stir 8 = .ok (.bipush 99, 2) := by decide +kernel
theorem dX7_stir_10 : decode cX7_stir 10 = .ok (.if_icmp .le 8, 3) := by decide +kernel
theorem dX7_stir_13 : decode cX7_stir 13 = .ok (.bipush 99, 2) := by decide +kernel
theorem dX7_stir_15 : decode cX7_stir 15 = .ok (.goto 10, 3) := by decide +kernel
theorem dX7_stir_18 : decode cX7_stir 18 = .ok (.aload_n 0, 1) := by decide +kernel
theorem dX7_stir_19 : decode cX7_stir 19 = .ok (.getfield 127, 3) := by decide +kernel
theorem dX7_stir_22 : decode cX7_stir 22 = .ok (.bipush 10, 2) := by decide +kernel
theorem dX7_stir_24 : decode cX7_stir 24 = .ok (.iadd, 1) := by decide +kernel
theorem dX7_stir_25 : decode cX7_stir 25 = .ok (.putfield 127, 3) := by decide +kernel
theorem dX7_stir_28 : decode cX7_stir 28 = .ok (.aload_n 0, 1) := by decide +kernel
theorem dX7_stir_29 : decode cX7_stir 29 = .ok (.aload_n 0, 1) := by decide +kernel
theorem dX7_stir_30 : decode cX7_stir 30 = .ok (.getfield 22, 3) := by decide +kernel
theorem dX7_stir_33 : decode cX7_stir 33 = .ok (.aload_n 0, 1) := by decide +kernel
theorem dX7_stir_34 : decode cX7_stir 34 = .ok (.getfield 136, 3) := by decide +kernel
theorem dX7_stir_37 : decode cX7_stir 37 = .ok (.iaload, 1) := by decide +kernel
theorem dX7_stir_38 : decode cX7_stir 38 = .ok (.putfield 136, 3) := by decide +kernel
theorem dX7_stir_41 : decode cX7_stir 41 = .ok (.return_, 1) := by decide +kernel
theorem dX7_morning_0 : decode cX7_morning 0 = .ok (.aload_n 0, 1) := by decide +kernel
theorem dX7_morning_1 : decode cX7_morning 1 = .ok (.bipush 10, 2) := by decide +kernel
theorem dX7_morning_3 : decode cX7_morning 3 = .ok (.putfield 72, 3) := by decide +kernel
theorem dX7_morning_6 : decode cX7_morning 6 = .ok (.aload_n 0, 1) := by decide +kernel
theorem dX7_morning_7 : decode cX7_morning 7 = .ok (.iconst 0, 1) := by decide +kernel
theorem dX7_morning_8 : decode cX7_morning 8 = .ok (.putfield 127, 3) := by decide +kernel
theorem dX7_morning_11 : decode cX7_morning 11 = .ok (.iconst 0, 1) := by decide +kernel
theorem dX7_morning_12 : decode cX7_morning 12 = .ok (.istore_n 1, 1) := by decide +kernel
theorem dX7_morning_13 : decode cX7_morning 13 = .ok (.iload_n 1, 1) := by decide +kernel
theorem dX7_morning_14 : decode cX7_morning 14 = .ok (.bipush 10, 2) := by decide +kernel
theorem dX7_morning_16 : decode cX7_morning 16 = .ok (.if_icmp .ge 16, 3) := by decide +kernel
theorem dX7_morning_19 : decode cX7_morning 19 = .ok (.aload_n 0, 1) := by decide +kernel
theorem dX7_morning_20 : decode cX7_morning 20 = .ok (.getfield 16, 3) := by decide +kernel
theorem dX7_morning_23 : decode cX7_morning 23 = .ok (.iload_n 1, 1) := by decide +kernel
theorem dX7_morning_24 : decode cX7_morning 24 = .ok (.iconst 0, 1) := by decide +kernel
theorem dX7_morning_25 : decode cX7_morning 25 = .ok (.iastore, 1) := by decide +kernel
theorem dX7_morning_26 : decode cX7_morning 26 = .ok (.iinc 1 1, 3) := by decide +kernel
theorem dX7_morning_29 : decode cX7_morning 29 = .ok (.goto (-16), 3) := by decide +kernel
theorem dX7_morning_32 : decode cX7_morning 32 = .ok (.aload_n 0, 1) := by decide +kernel
theorem dX7_morning_33 : decode cX7_morning 33 = .ok (.dup, 1) := by decide +kernel
theorem dX7_morning_34 : decode cX7_morning 34 = .ok (.getfield 130, 3) := by decide +kernel
theorem dX7_morning_37 : decode cX7_morning 37 = .ok (.iconst 1, 1) := by decide +kernel
theorem dX7_morning_38 : decode cX7_morning 38 = .ok (.iadd, 1) := by decide +kernel
theorem dX7_morning_39 : decode cX7_morning 39 = .ok (.putfield 130, 3) := by decide +kernel
theorem dX7_morning_42 : decode cX7_morning 42 = .ok (.return_, 1) := by decide +kernel
set_option maxRecDepth 20000 in
theorem ggX7_happen_X7_fill : GoodIn wsX7_happen wsX7_fill := goodIn_r _ [5, 6, 7, 34, 35, 36, 37, 38, 39, 40, 41, 42, 43, 44, 45, 46, 47, 48, 49, 50, 51, 52, 53, 54, 55, 56, 57, 58, 59, 60, 61, 62, 63, 64, 65, 66, 67] (by decide +kernel) (by decide +kernel)
set_option maxRecDepth 20000 in
theorem gX7_happen_X7_fill : GoodIn wsX7_happen (wsV RX7 139 RX7 yX7_fill wsX7_fill) := goodIn_app (goodIn_of _ (by decide +kernel)) ggX7_happen_X7_fill
set_option maxRecDepth 20000 in
theorem ggX7_happen_X7_carry : GoodIn wsX7_happen wsX7_carry := goodIn_r _ [11, 7, 12, 13, 14, 15, 4, 16, 34, 35, 36, 37, 38, 39, 40, 41, 42, 43, 44, 45, 46, 47, 48, 49, 50, 51, 52, 53, 54, 55, 56, 57, 58, 59, 60, 61, 62, 63, 64, 65, 66, 67] (by decide +kernel) (by decide +kernel)
set_option maxRecDepth 20000 in
theorem gX7_happen_X7_carry : GoodIn wsX7_happen (wsV RX7 143 RX7 yX7_carry wsX7_carry) := goodIn_app (goodIn_of _ (by decide +kernel)) ggX7_happen_X7_carry
set_option maxRecDepth 20000 in
theorem ggX7_happen_X7_put : GoodIn wsX7_happen wsX7_put := goodIn_r _ [20, 13, 21, 7, 22, 23, 6, 14, 15, 4, 16, 34, 35, 36, 37, 38, 39, 40, 41, 42, 43, 44, 45, 46, 47, 48, 49, 50, 51, 52, 53, 54, 55, 56, 57, 58, 59, 60, 61, 62, 63, 64, 65, 66, 67] (by decide +kernel) (by decide +kernel)
set_option maxRecDepth 20000 in
theorem gX7_happen_X7_put : GoodIn wsX7_happen (wsV RX7 147 RX7 yX7_put wsX7_put) := goodIn_app (goodIn_of _ (by decide +kernel)) ggX7_happen_X7_put
set_option maxRecDepth 20000 in
theorem ggX7_happen_X7_stir : GoodIn wsX7_happen wsX7_stir := goodIn_r _ [27, 7, 28, 6, 34, 35, 36, 37, 38, 39, 40, 41, 42, 43, 44, 45, 46, 47, 48, 49, 50, 51, 52, 53, 54, 55, 56, 57, 58, 59, 60, 61, 62, 63, 64, 65, 66, 67] (by decide +kernel) (by decide +kernel)
set_option maxRecDepth 20000 in
theorem gX7_happen_X7_stir : GoodIn wsX7_happen (wsV RX7 150 RX7 yX7_stir wsX7_stir) := goodIn_app (goodIn_of _ (by decide +kernel)) ggX7_happen_X7_stir
set_option maxRecDepth 20000 in
theorem ggX7_happen_X7_morning : GoodIn wsX7_happen wsX7_morning := goodIn_r _ [32, 13, 7, 21, 33, 34, 35, 36, 37, 38, 39, 40, 41, 42, 43, 44, 45, 46, 47, 48, 49, 50, 51, 52, 53, 54, 55, 56, 57, 58, 59, 60, 61, 62, 63, 64, 65, 66, 67] (by decide +kernel) (by decide +kernel)
set_option maxRecDepth 20000 in
theorem gX7_happen_X7_morning : GoodIn wsX7_happen (wsV RX7 153 RX7 yX7_morning wsX7_morning) := goodIn_app (goodIn_of _ (by decide +kernel)) ggX7_happen_X7_morning
theorem dX7_happen_0 : decode cX7_happen 0 = .ok (.iload_n 1, 1) := by decide +kernel
theorem dX7_happen_1 : decode cX7_happen 1 = .ok (.tableswitch 62 0 3 #[31, 40, 48, 55], 31) := by decide +kernel
theorem dX7_happen_32 : decode cX7_happen 32 = .ok (.aload_n 0, 1) := by decide +kernel
theorem dX7_happen_33 : decode cX7_happen 33 = .ok (.iload_n 2, 1) := by decide +kernel
theorem dX7_happen_34 : decode cX7_happen 34 = .ok (.iload_n 3, 1) := by decide +kernel
theorem dX7_happen_35 : decode cX7_happen 35 = .ok (.invokevirtual 139, 3) := by decide +kernel
theorem dX7_happen_38 : decode cX7_happen 38 = .ok (.goto 29, 3) := by decide +kernel
theorem dX7_happen_41 : decode cX7_happen 41 = .ok (.aload_n 0, 1) := by decide +kernel
theorem dX7_happen_42 : decode cX7_happen 42 = .ok (.iload_n 2, 1) := by decide +kernel
theorem dX7_happen_43 : decode cX7_happen 43 = .ok (.invokevirtual 143, 3) := by decide +kernel
theorem dX7_happen_46 : decode cX7_happen 46 = .ok (.goto 21, 3) := by decide +kernel
theorem dX7_happen_49 : decode cX7_happen 49 = .ok (.aload_n 0, 1) := by decide +kernel
theorem dX7_happen_50 : decode cX7_happen 50 = .ok (.invokevirtual 147, 3) := by decide +kernel
theorem dX7_happen_53 : decode cX7_happen 53 = .ok (.goto 14, 3) := by decide +kernel
theorem dX7_happen_56 : decode cX7_happen 56 = .ok (.aload_n 0, 1) := by decide +kernel
theorem dX7_happen_57 : decode cX7_happen 57 = .ok (.invokevirtual 150, 3) := by decide +kernel
theorem dX7_happen_60 : decode cX7_happen 60 = .ok (.goto 7, 3) := by decide +kernel
theorem dX7_happen_63 : decode cX7_happen 63 = .ok (.aload_n 0, 1) := by decide +kernel
theorem dX7_happen_64 : decode cX7_happen 64 = .ok (.invokevirtual 153, 3) := by decide +kernel
theorem dX7_happen_67 : decode cX7_happen 67 = .ok (.return_, 1) := by decide +kernel
theorem dX7_keepNow_0 : decode cX7_keepNow 0 = .ok (.iconst 0, 1) := by decide +kernel
theorem dX7_keepNow_1 : decode cX7_keepNow 1 = .ok (.istore_n 1, 1) := by decide +kernel
theorem dX7_keepNow_2 : decode cX7_keepNow 2 = .ok (.iload_n 1, 1) := by decide +kernel
theorem dX7_keepNow_3 : decode cX7_keepNow 3 = .ok (.bipush 10, 2) := by decide +kernel
theorem dX7_keepNow_5 : decode cX7_keepNow 5 = .ok (.if_icmp .ge 51, 3) := by decide +kernel
theorem dX7_keepNow_8 : decode cX7_keepNow 8 = .ok (.aload_n 0, 1) := by decide +kernel
theorem dX7_keepNow_9 : decode cX7_keepNow 9 = .ok (.getfield 43, 3) := by decide +kernel
theorem dX7_keepNow_12 : decode cX7_keepNow 12 = .ok (.iload_n 1, 1) := by decide +kernel
theorem dX7_keepNow_13 : decode cX7_keepNow 13 = .ok (.aload_n 0, 1) := by decide +kernel
theorem dX7_keepNow_14 : decode cX7_keepNow 14 = .ok (.getfield 13, 3) := by decide +kernel
theorem dX7_keepNow_17 : decode cX7_keepNow 17 = .ok (.iload_n 1, 1) := by decide +kernel
theorem dX7_keepNow_18 : decode cX7_keepNow 18 = .ok (.iaload, 1) := by decide +kernel
theorem dX7_keepNow_19 : decode cX7_keepNow 19 = .ok (.iastore, 1) := by decide +kernel
theorem dX7_keepNow_20 : decode cX7_keepNow 20 = .ok (.aload_n 0, 1) := by decide +kernel
theorem dX7_keepNow_21 : decode cX7_keepNow 21 = .ok (.getfield 43, 3) := by decide +kernel
theorem dX7_keepNow_24 : decode cX7_keepNow 24 = .ok (.bipush 10, 2) := by decide +kernel
theorem dX7_keepNow_26 : decode cX7_keepNow 26 = .ok (.iload_n 1, 1) := by decide +kernel
theorem dX7_keepNow_27 : decode cX7_keepNow 27 = .ok (.iadd, 1) := by decide +kernel
theorem dX7_keepNow_28 : decode cX7_keepNow 28 = .ok (.aload_n 0, 1) := by decide +kernel
theorem dX7_keepNow_29 : decode cX7_keepNow 29 = .ok (.getfield 16, 3) := by decide +kernel
theorem dX7_keepNow_32 : decode cX7_keepNow 32 = .ok (.iload_n 1, 1) := by decide +kernel
theorem dX7_keepNow_33 : decode cX7_keepNow 33 = .ok (.iaload, 1) := by decide +kernel
theorem dX7_keepNow_34 : decode cX7_keepNow 34 = .ok (.iastore, 1) := by decide +kernel
theorem dX7_keepNow_35 : decode cX7_keepNow 35 = .ok (.aload_n 0, 1) := by decide +kernel
theorem dX7_keepNow_36 : decode cX7_keepNow 36 = .ok (.getfield 43, 3) := by decide +kernel
theorem dX7_keepNow_39 : decode cX7_keepNow 39 = .ok (.bipush 20, 2) := by decide +kernel
theorem dX7_keepNow_41 : decode cX7_keepNow 41 = .ok (.iload_n 1, 1) := by decide +kernel
theorem dX7_keepNow_42 : decode cX7_keepNow 42 = .ok (.iadd, 1) := by decide +kernel
theorem dX7_keepNow_43 : decode cX7_keepNow 43 = .ok (.aload_n 0, 1) := by decide +kernel
theorem dX7_keepNow_44 : decode cX7_keepNow 44 = .ok (.getfield 19, 3) := by decide +kernel
theorem dX7_keepNow_47 : decode cX7_keepNow 47 = .ok (.iload_n 1, 1) := by decide +kernel
theorem dX7_keepNow_48 : decode cX7_keepNow 48 = .ok (.iaload, 1) := by decide +kernel
theorem dX7_keepNow_49 : decode cX7_keepNow 49 = .ok (.iastore, 1) := by decide +kernel
theorem dX7_keepNow_50 : decode cX7_keepNow 50 = .ok (.iinc 1 1, 3) := by decide +kernel
theorem dX7_keepNow_53 : decode cX7_keepNow 53 = .ok (.goto (-51), 3) := by decide +kernel
theorem dX7_keepNow_56 : decode cX7_keepNow 56 = .ok (.aload_n 0, 1) := by decide +kernel
theorem dX7_keepNow_57 : decode cX7_keepNow 57 = .ok (.getfield 43, 3) := by decide +kernel
theorem dX7_keepNow_60 : decode cX7_keepNow 60 = .ok (.bipush 30, 2) := by decide +kernel
theorem dX7_keepNow_62 : decode cX7_keepNow 62 = .ok (.aload_n 0, 1) := by decide +kernel
theorem dX7_keepNow_63 : decode cX7_keepNow 63 = .ok (.getfield 72, 3) := by decide +kernel
theorem dX7_keepNow_66 : decode cX7_keepNow 66 = .ok (.iastore, 1) := by decide +kernel
theorem dX7_keepNow_67 : decode cX7_keepNow 67 = .ok (.aload_n 0, 1) := by decide +kernel
theorem dX7_keepNow_68 : decode cX7_keepNow 68 = .ok (.getfield 43, 3) := by decide +kernel
theorem dX7_keepNow_71 : decode cX7_keepNow 71 = .ok (.bipush 31, 2) := by decide +kernel
theorem dX7_keepNow_73 : decode cX7_keepNow 73 = .ok (.aload_n 0, 1) := by decide +kernel
theorem dX7_keepNow_74 : decode cX7_keepNow 74 = .ok (.getfield 127, 3) := by decide +kernel
theorem dX7_keepNow_77 : decode cX7_keepNow 77 = .ok (.iastore, 1) := by decide +kernel
theorem dX7_keepNow_78 : decode cX7_keepNow 78 = .ok (.aload_n 0, 1) := by decide +kernel
theorem dX7_keepNow_79 : decode cX7_keepNow 79 = .ok (.getfield 43, 3) := by decide +kernel
theorem dX7_keepNow_82 : decode cX7_keepNow 82 = .ok (.bipush 32, 2) := by decide +kernel
theorem dX7_keepNow_84 : decode cX7_keepNow 84 = .ok (.aload_n 0, 1) := by decide +kernel
theorem dX7_keepNow_85 : decode cX7_keepNow 85 = .ok (.getfield 136, 3) := by decide +kernel
theorem dX7_keepNow_88 : decode cX7_keepNow 88 = .ok (.iastore, 1) := by decide +kernel
theorem dX7_keepNow_89 : decode cX7_keepNow 89 = .ok (.aload_n 0, 1) := by decide +kernel
theorem dX7_keepNow_90 : decode cX7_keepNow 90 = .ok (.getfield 43, 3) := by decide +kernel
theorem dX7_keepNow_93 : decode cX7_keepNow 93 = .ok (.bipush 33, 2) := by decide +kernel
theorem dX7_keepNow_95 : decode cX7_keepNow 95 = .ok (.aload_n 0, 1) := by decide +kernel
theorem dX7_keepNow_96 : decode cX7_keepNow 96 = .ok (.getfield 130, 3) := by decide +kernel
theorem dX7_keepNow_99 : decode cX7_keepNow 99 = .ok (.iastore, 1) := by decide +kernel
theorem dX7_keepNow_100 : decode cX7_keepNow 100 = .ok (.return_, 1) := by decide +kernel
theorem dX7_back_0 : decode cX7_back 0 = .ok (.iconst 0, 1) := by decide +kernel
theorem dX7_back_1 : decode cX7_back 1 = .ok (.istore_n 2, 1) := by decide +kernel
theorem dX7_back_2 : decode cX7_back 2 = .ok (.iload_n 2, 1) := by decide +kernel
theorem dX7_back_3 : decode cX7_back 3 = .ok (.bipush 10, 2) := by decide +kernel
theorem dX7_back_5 : decode cX7_back 5 = .ok (.if_icmp .ge 51, 3) := by decide +kernel
theorem dX7_back_8 : decode cX7_back 8 = .ok (.aload_n 0, 1) := by decide +kernel
theorem dX7_back_9 : decode cX7_back 9 = .ok (.getfield 13, 3) := by decide +kernel
theorem dX7_back_12 : decode cX7_back 12 = .ok (.iload_n 2, 1) := by decide +kernel
theorem dX7_back_13 : decode cX7_back 13 = .ok (.aload_n 0, 1) := by decide +kernel
theorem dX7_back_14 : decode cX7_back 14 = .ok (.getfield 43, 3) := by decide +kernel
theorem dX7_back_17 : decode cX7_back 17 = .ok (.iload_n 2, 1) := by decide +kernel
theorem dX7_back_18 : decode cX7_back 18 = .ok (.iaload, 1) := by decide +kernel
theorem dX7_back_19 : decode cX7_back 19 = .ok (.iastore, 1) := by decide +kernel
theorem dX7_back_20 : decode cX7_back 20 = .ok (.aload_n 0, 1) := by decide +kernel
theorem dX7_back_21 : decode cX7_back 21 = .ok (.getfield 16, 3) := by decide +kernel
theorem dX7_back_24 : decode cX7_back 24 = .ok (.iload_n 2, 1) := by decide +kernel
theorem dX7_back_25 : decode cX7_back 25 = .ok (.aload_n 0, 1) := by decide +kernel
theorem dX7_back_26 : decode cX7_back 26 = .ok (.getfield 43, 3) := by decide +kernel
theorem dX7_back_29 : decode cX7_back 29 = .ok (.bipush 10, 2) := by decide +kernel
theorem dX7_back_31 : decode cX7_back 31 = .ok (.iload_n 2, 1) := by decide +kernel
theorem dX7_back_32 : decode cX7_back 32 = .ok (.iadd, 1) := by decide +kernel
theorem dX7_back_33 : decode cX7_back 33 = .ok (.iaload, 1) := by decide +kernel
theorem dX7_back_34 : decode cX7_back 34 = .ok (.iastore, 1) := by decide +kernel
theorem dX7_back_35 : decode cX7_back 35 = .ok (.aload_n 0, 1) := by decide +kernel
theorem dX7_back_36 : decode cX7_back 36 = .ok (.getfield 19, 3) := by decide +kernel
theorem dX7_back_39 : decode cX7_back 39 = .ok (.iload_n 2, 1) := by decide +kernel
theorem dX7_back_40 : decode cX7_back 40 = .ok (.aload_n 0, 1) := by decide +kernel
theorem dX7_back_41 : decode cX7_back 41 = .ok (.getfield 43, 3) := by decide +kernel
theorem dX7_back_44 : decode cX7_back 44 = .ok (.bipush 20, 2) := by decide +kernel
theorem dX7_back_46 : decode cX7_back 46 = .ok (.iload_n 2, 1) := by decide +kernel
theorem dX7_back_47 : decode cX7_back 47 = .ok (.iadd, 1) := by decide +kernel
theorem dX7_back_48 : decode cX7_back 48 = .ok (.iaload, 1) := by decide +kernel
theorem dX7_back_49 : decode cX7_back 49 = .ok (.iastore, 1) := by decide +kernel
theorem dX7_back_50 : decode cX7_back 50 = .ok (.iinc 2 1, 3) := by decide +kernel
theorem dX7_back_53 : decode cX7_back 53 = .ok (.goto (-51), 3) := by decide +kernel
theorem dX7_back_56 : decode cX7_back 56 = .ok (.aload_n 0, 1) := by decide +kernel
theorem dX7_back_57 : decode cX7_back 57 = .ok (.aload_n 0, 1) := by decide +kernel
theorem dX7_back_58 : decode cX7_back 58 = .ok (.getfield 43, 3) := by decide +kernel
theorem dX7_back_61 : decode cX7_back 61 = .ok (.bipush 30, 2) := by decide +kernel
theorem dX7_back_63 : decode cX7_back 63 = .ok (.iaload, 1) := by decide +kernel
theorem dX7_back_64 : decode cX7_back 64 = .ok (.putfield 72, 3) := by decide +kernel
theorem dX7_back_67 : decode cX7_back 67 = .ok (.aload_n 0, 1) := by decide +kernel
theorem dX7_back_68 : decode cX7_back 68 = .ok (.aload_n 0, 1) := by decide +kernel
theorem dX7_back_69 : decode cX7_back 69 = .ok (.getfield 43, 3) := by decide +kernel
theorem dX7_back_72 : decode cX7_back 72 = .ok (.bipush 31, 2) := by decide +kernel
theorem dX7_back_74 : decode cX7_back 74 = .ok (.iaload, 1) := by decide +kernel
theorem dX7_back_75 : decode cX7_back 75 = .ok (.putfield 127, 3) := by decide +kernel
theorem dX7_back_78 : decode cX7_back 78 = .ok (.aload_n 0, 1) := by decide +kernel
theorem dX7_back_79 : decode cX7_back 79 = .ok (.aload_n 0, 1) := by decide +kernel
theorem dX7_back_80 : decode cX7_back 80 = .ok (.getfield 43, 3) := by decide +kernel
theorem dX7_back_83 : decode cX7_back 83 = .ok (.bipush 32, 2) := by decide +kernel
theorem dX7_back_85 : decode cX7_back 85 = .ok (.iaload, 1) := by decide +kernel
theorem dX7_back_86 : decode cX7_back 86 = .ok (.putfield 136, 3) := by decide +kernel
theorem dX7_back_89 : decode cX7_back 89 = .ok (.aload_n 0, 1) := by decide +kernel
theorem dX7_back_90 : decode cX7_back 90 = .ok (.aload_n 0, 1) := by decide +kernel
theorem dX7_back_91 : decode cX7_back 91 = .ok (.getfield 43, 3) := by decide +kernel
theorem dX7_back_94 : decode cX7_back 94 = .ok (.bipush 33, 2) := by decide +kernel
theorem dX7_back_96 : decode cX7_back 96 = .ok (.iaload, 1) := by decide +kernel
theorem dX7_back_97 : decode cX7_back 97 = .ok (.putfield 130, 3) := by decide +kernel
theorem dX7_back_100 : decode cX7_back 100 = .ok (.iload_n 1, 1) := by decide +kernel
theorem dX7_back_101 : decode cX7_back 101 = .ok (.ireturn, 1) := by decide +kernel
set_option maxRecDepth 20000 in
theorem ggX7_goOne_X7_happen : GoodIn wsX7_goOne wsX7_happen := goodIn_r _ [13, 14, 15, 16, 12, 17, 18, 19, 20, 21, 22, 23, 24, 1, 25, 26, 27, 28, 29, 30, 31, 32, 33, 2, 34, 35, 36, 37, 38, 39, 40, 41, 42, 43, 44, 45, 46, 47, 48, 49, 50, 51, 52, 53, 54, 55, 56, 57, 58, 59, 60, 61, 62, 63, 64, 65, 66, 67, 68, 69, 70, 71, 72, 73, 74, 75, 76, 77] (by decide +kernel) (by decide +kernel)
set_option maxRecDepth 20000 in
theorem gX7_goOne_X7_happen : GoodIn wsX7_goOne (wsV RX7 156 RX7 yX7_happen wsX7_happen) := goodIn_app (goodIn_of _ (by decide +kernel)) ggX7_goOne_X7_happen
theorem dX7_goOne_0 : decode cX7_goOne 0 = .ok (.aload_n 0, 1) := by decide +kernel
theorem dX7_goOne_1 : decode cX7_goOne 1 = .ok (.getfield 72, 3) := by decide +kernel
theorem dX7_goOne_4 : decode cX7_goOne 4 = .ok (.istore_n 2, 1) := by decide +kernel
theorem dX7_goOne_5 : decode cX7_goOne 5 = .ok (.iload_n 2, 1) := by decide +kernel
theorem dX7_goOne_6 : decode cX7_goOne 6 = .ok (.bipush 10, 2) := by decide +kernel
theorem dX7_goOne_8 : decode cX7_goOne 8 = .ok (.if_icmp .ne 8, 3) := by decide +kernel
theorem dX7_goOne_11 : decode cX7_goOne 11 = .ok (.bipush (-6), 2) := by decide +kernel
theorem dX7_goOne_13 : decode cX7_goOne 13 = .ok (.goto 9, 3) := by decide +kernel
theorem dX7_goOne_16 : decode cX7_goOne 16 = .ok (.aload_n 0, 1) := by decide +kernel
theorem dX7_goOne_17 : decode cX7_goOne 17 = .ok (.getfield 19, 3) := by decide +kernel
theorem dX7_goOne_20 : decode cX7_goOne 20 = .ok (.iload_n 2, 1) := by decide +kernel
theorem dX7_goOne_21 : decode cX7_goOne 21 = .ok (.iaload, 1) := by decide +kernel
theorem dX7_goOne_22 : decode cX7_goOne 22 = .ok (.istore_n 3, 1) := by decide +kernel
theorem dX7_goOne_23 : decode cX7_goOne 23 = .ok (.aload_n 0, 1) := by decide +kernel
theorem dX7_goOne_24 : decode cX7_goOne 24 = .ok (.aload_n 0, 1) := by decide +kernel
theorem dX7_goOne_25 : decode cX7_goOne 25 = .ok (.getfield 34, 3) := by decide +kernel
theorem dX7_goOne_28 : decode cX7_goOne 28 = .ok (.iload_n 1, 1) := by decide +kernel
theorem dX7_goOne_29 : decode cX7_goOne 29 = .ok (.iaload, 1) := by decide +kernel
theorem dX7_goOne_30 : decode cX7_goOne 30 = .ok (.aload_n 0, 1) := by decide +kernel
theorem dX7_goOne_31 : decode cX7_goOne 31 = .ok (.getfield 37, 3) := by decide +kernel
theorem dX7_goOne_34 : decode cX7_goOne 34 = .ok (.iload_n 1, 1) := by decide +kernel
theorem dX7_goOne_35 : decode cX7_goOne 35 = .ok (.iaload, 1) := by decide +kernel
theorem dX7_goOne_36 : decode cX7_goOne 36 = .ok (.aload_n 0, 1) := by decide +kernel
theorem dX7_goOne_37 : decode cX7_goOne 37 = .ok (.getfield 40, 3) := by decide +kernel
theorem dX7_goOne_40 : decode cX7_goOne 40 = .ok (.iload_n 1, 1) := by decide +kernel
theorem dX7_goOne_41 : decode cX7_goOne 41 = .ok (.iaload, 1) := by decide +kernel
theorem dX7_goOne_42 : decode cX7_goOne 42 = .ok (.invokevirtual 156, 3) := by decide +kernel
theorem dX7_goOne_45 : decode cX7_goOne 45 = .ok (.aload_n 0, 1) := by decide +kernel
theorem dX7_goOne_46 : decode cX7_goOne 46 = .ok (.dup, 1) := by decide +kernel
theorem dX7_goOne_47 : decode cX7_goOne 47 = .ok (.getfield 160, 3) := by decide +kernel
theorem dX7_goOne_50 : decode cX7_goOne 50 = .ok (.aload_n 0, 1) := by decide +kernel
theorem dX7_goOne_51 : decode cX7_goOne 51 = .ok (.getfield 34, 3) := by decide +kernel
theorem dX7_goOne_54 : decode cX7_goOne 54 = .ok (.iload_n 1, 1) := by decide +kernel
theorem dX7_goOne_55 : decode cX7_goOne 55 = .ok (.iaload, 1) := by decide +kernel
theorem dX7_goOne_56 : decode cX7_goOne 56 = .ok (.iconst 2, 1) := by decide +kernel
theorem dX7_goOne_57 : decode cX7_goOne 57 = .ok (.if_icmp .ne 7, 3) := by decide +kernel
theorem dX7_goOne_60 : decode cX7_goOne 60 = .ok (.iconst 1, 1) := by decide +kernel
theorem dX7_goOne_61 : decode cX7_goOne 61 = .ok (.goto 4, 3) := by decide +kernel
theorem dX7_goOne_64 : decode cX7_goOne 64 = .ok (.iconst 0, 1) := by decide +kernel
theorem dX7_goOne_65 : decode cX7_goOne 65 = .ok (.iadd, 1) := by decide +kernel
theorem dX7_goOne_66 : decode cX7_goOne 66 = .ok (.putfield 160, 3) := by decide +kernel
theorem dX7_goOne_69 : decode cX7_goOne 69 = .ok (.aload_n 0, 1) := by decide +kernel
theorem dX7_goOne_70 : decode cX7_goOne 70 = .ok (.getfield 34, 3) := by decide +kernel
theorem dX7_goOne_73 : decode cX7_goOne 73 = .ok (.iload_n 1, 1) := by decide +kernel
theorem dX7_goOne_74 : decode cX7_goOne 74 = .ok (.iaload, 1) := by decide +kernel
theorem dX7_goOne_75 : decode cX7_goOne 75 = .ok (.iconst 2, 1) := by decide +kernel
theorem dX7_goOne_76 : decode cX7_goOne 76 = .ok (.if_icmp .ne 30, 3) := by decide +kernel
theorem dX7_goOne_79 : decode cX7_goOne 79 = .ok (.aload_n 0, 1) := by decide +kernel
theorem dX7_goOne_80 : decode cX7_goOne 80 = .ok (.getfield 19, 3) := by decide +kernel
theorem dX7_goOne_83 : decode cX7_goOne 83 = .ok (.iload_n 2, 1) := by decide +kernel
theorem dX7_goOne_84 : decode cX7_goOne 84 = .ok (.iaload, 1) := by decide +kernel
theorem dX7_goOne_85 : decode cX7_goOne 85 = .ok (.iload_n 3, 1) := by decide +kernel
theorem dX7_goOne_86 : decode cX7_goOne 86 = .ok (.if_icmp .eq 20, 3) := by decide +kernel
theorem dX7_goOne_89 : decode cX7_goOne 89 = .ok (.aload_n 0, 1) := by decide +kernel
theorem dX7_goOne_90 : decode cX7_goOne 90 = .ok (.getfield 163, 3) := by decide +kernel
theorem dX7_goOne_93 : decode cX7_goOne 93 = .ok (.ifCond .ge 13, 3) := by decide +kernel
theorem dX7_goOne_96 : decode cX7_goOne 96 = .ok (.aload_n 0, 1) := by decide +kernel
theorem dX7_goOne_97 : decode cX7_goOne 97 = .ok (.iload_n 1, 1) := by decide +kernel
theorem dX7_goOne_98 : decode cX7_goOne 98 = .ok (.putfield 163, 3) := by decide +kernel
theorem dX7_goOne_101 : decode cX7_goOne 101 = .ok (.aload_n 0, 1) := by decide +kernel
theorem dX7_goOne_102 : decode cX7_goOne 102 = .ok (.iload_n 2, 1) := by decide +kernel
theorem dX7_goOne_103 : decode cX7_goOne 103 = .ok (.putfield 166, 3) := by decide +kernel
theorem dX7_goOne_106 : decode cX7_goOne 106 = .ok (.return_, 1) := by decide +kernel
set_option maxRecDepth 20000 in
theorem ggX7_goNights_X7_whyNot : GoodIn wsX7_goNights wsX7_whyNot := goodIn_r _ [13, 14, 15, 16, 17, 55, 56, 57, 58, 59, 60, 61, 62, 63, 64, 65, 66, 67, 68, 69, 70, 71, 72, 73, 74, 75, 76, 77, 78, 79, 80, 81, 82, 83, 84, 85, 86, 87, 88] (by decide +kernel) (by decide +kernel)
set_option maxRecDepth 20000 in
theorem gX7_goNights_X7_whyNot : GoodIn wsX7_goNights (wsV RX7 175 RX7 yX7_whyNot wsX7_whyNot) := goodIn_app (goodIn_of _ (by decide +kernel)) ggX7_goNights_X7_whyNot
set_option maxRecDepth 20000 in
theorem ggX7_goNights_X7_goOne : GoodIn wsX7_goNights wsX7_goOne := goodIn_r _ [21, 14, 22, 7, 8, 23, 3, 4, 5, 24, 25, 26, 12, 27, 28, 29, 30, 31, 32, 16, 33, 34, 35, 36, 15, 37, 38, 39, 40, 41, 42, 43, 44, 45, 46, 47, 48, 49, 50, 51, 52, 53, 54, 17, 55, 56, 57, 58, 59, 60, 61, 62, 63, 64, 65, 66, 67, 68, 69, 70, 71, 72, 73, 74, 75, 76, 77, 78, 79, 80, 81, 82, 83, 84, 85, 86, 87, 88] (by decide +kernel) (by decide +kernel)
set_option maxRecDepth 20000 in
theorem gX7_goNights_X7_goOne : GoodIn wsX7_goNights (wsV RX7 178 RX7 yX7_goOne wsX7_goOne) := goodIn_app (goodIn_of _ (by decide +kernel)) ggX7_goNights_X7_goOne
theorem dX7_goNights_0 : decode cX7_goNights 0 = .ok (.aload_n 0, 1) := by decide +kernel
theorem dX7_goNights_1 : decode cX7_goNights 1 = .ok (.bipush (-6), 2) := by decide +kernel
theorem dX7_goNights_3 : decode cX7_goNights 3 = .ok (.putfield 169, 3) := by decide +kernel
theorem dX7_goNights_6 : decode cX7_goNights 6 = .ok (.aload_n 0, 1) := by decide +kernel
theorem dX7_goNights_7 : decode cX7_goNights 7 = .ok (.bipush (-6), 2) := by decide +kernel
theorem dX7_goNights_9 : decode cX7_goNights 9 = .ok (.putfield 172, 3) := by decide +kernel
theorem dX7_goNights_12 : decode cX7_goNights 12 = .ok (.aload_n 0, 1) := by decide +kernel
theorem dX7_goNights_13 : decode cX7_goNights 13 = .ok (.iconst 0, 1) := by decide +kernel
theorem dX7_goNights_14 : decode cX7_goNights 14 = .ok (.putfield 160, 3) := by decide +kernel
theorem dX7_goNights_17 : decode cX7_goNights 17 = .ok (.aload_n 0, 1) := by decide +kernel
theorem dX7_goNights_18 : decode cX7_goNights 18 = .ok (.bipush (-6), 2) := by decide +kernel
theorem dX7_goNights_20 : decode cX7_goNights 20 = .ok (.putfield 163, 3) := by decide +kernel
theorem dX7_goNights_23 : decode cX7_goNights 23 = .ok (.aload_n 0, 1) := by decide +kernel
theorem dX7_goNights_24 : decode cX7_goNights 24 = .ok (.bipush (-6), 2) := by decide +kernel
theorem dX7_goNights_26 : decode cX7_goNights 26 = .ok (.putfield 166, 3) := by decide +kernel
theorem dX7_goNights_29 : decode cX7_goNights 29 = .ok (.iconst 0, 1) := by decide +kernel
theorem dX7_goNights_30 : decode cX7_goNights 30 = .ok (.istore_n 1, 1) := by decide +kernel
theorem dX7_goNights_31 : decode cX7_goNights 31 = .ok (.iload_n 1, 1) := by decide +kernel
theorem dX7_goNights_32 : decode cX7_goNights 32 = .ok (.aload_n 0, 1) := by decide +kernel
theorem dX7_goNights_33 : decode cX7_goNights 33 = .ok (.getfield 103, 3) := by decide +kernel
theorem dX7_goNights_36 : decode cX7_goNights 36 = .ok (.if_icmp .ge 70, 3) := by decide +kernel
theorem dX7_goNights_39 : decode cX7_goNights 39 = .ok (.aload_n 0, 1) := by decide +kernel
theorem dX7_goNights_40 : decode cX7_goNights 40 = .ok (.getfield 169, 3) := by decide +kernel
theorem dX7_goNights_43 : decode cX7_goNights 43 = .ok (.ifCond .ge 63, 3) := by decide +kernel
theorem dX7_goNights_46 : decode cX7_goNights 46 = .ok (.aload_n 0, 1) := by decide +kernel
theorem dX7_goNights_47 : decode cX7_goNights 47 = .ok (.aload_n 0, 1) := by decide +kernel
theorem dX7_goNights_48 : decode cX7_goNights 48 = .ok (.getfield 34, 3) := by decide +kernel
theorem dX7_goNights_51 : decode cX7_goNights 51 = .ok (.iload_n 1, 1) := by decide +kernel
theorem dX7_goNights_52 : decode cX7_goNights 52 = .ok (.iaload, 1) := by decide +kernel
theorem dX7_goNights_53 : decode cX7_goNights 53 = .ok (.aload_n 0, 1) := by decide +kernel
theorem dX7_goNights_54 : decode cX7_goNights 54 = .ok (.getfield 37, 3) := by decide +kernel
theorem dX7_goNights_57 : decode cX7_goNights 57 = .ok (.iload_n 1, 1) := by decide +kernel
theorem dX7_goNights_58 : decode cX7_goNights 58 = .ok (.iaload, 1) := by decide +kernel
theorem dX7_goNights_59 : decode cX7_goNights 59 = .ok (.invokevirtual 175, 3) := by decide +kernel
theorem dX7_goNights_62 : decode cX7_goNights 62 = .ok (.istore_n 2, 1) := by decide +kernel
theorem dX7_goNights_63 : decode cX7_goNights 63 = .ok (.aload_n 0, 1) := by decide +kernel
theorem dX7_goNights_64 : decode cX7_goNights 64 = .ok (.iload_n 2, 1) := by decide +kernel
theorem dX7_goNights_65 : decode cX7_goNights 65 = .ok (.ifCond .le 7, 3) := by decide +kernel
theorem dX7_goNights_68 : decode cX7_goNights 68 = .ok (.iload_n 1, 1) := by decide +kernel
theorem dX7_goNights_69 : decode cX7_goNights 69 = .ok (.goto 5, 3) := by decide +kernel
theorem dX7_goNights_72 : decode cX7_goNights 72 = .ok (.bipush (-6), 2) := by decide +kernel
theorem dX7_goNights_74 : decode cX7_goNights 74 = .ok (.putfield 169, 3) := by decide +kernel
theorem dX7_goNights_77 : decode cX7_goNights 77 = .ok (.aload_n 0, 1) := by decide +kernel
theorem dX7_goNights_78 : decode cX7_goNights 78 = .ok (.iload_n 2, 1) := by decide +kernel
theorem dX7_goNights_79 : decode cX7_goNights 79 = .ok (.ifCond .le 7, 3) := by decide +kernel
theorem dX7_goNights_82 : decode cX7_goNights 82 = .ok (.iload_n 2, 1) := by decide +kernel
theorem dX7_goNights_83 : decode cX7_goNights 83 = .ok (.goto 5, 3) := by decide +kernel
theorem dX7_goNights_86 : decode cX7_goNights 86 = .ok (.bipush (-6), 2) := by decide +kernel
theorem dX7_goNights_88 : decode cX7_goNights 88 = .ok (.putfield 172, 3) := by decide +kernel
theorem dX7_goNights_91 : decode cX7_goNights 91 = .ok (.iload_n 2, 1) := by decide +kernel
theorem dX7_goNights_92 : decode cX7_goNights 92 = .ok (.ifCond .ne 8, 3) := by decide +kernel
theorem dX7_goNights_95 : decode cX7_goNights 95 = .ok (.aload_n 0, 1) := by decide +kernel
theorem dX7_goNights_96 : decode cX7_goNights 96 = .ok (.iload_n 1, 1) := by decide +kernel
theorem dX7_goNights_97 : decode cX7_goNights 97 = .ok (.invokevirtual 178, 3) := by decide +kernel
theorem dX7_goNights_100 : decode cX7_goNights 100 = .ok (.iinc 1 1, 3) := by decide +kernel
theorem dX7_goNights_103 : decode cX7_goNights 103 = .ok (.goto (-72), 3) := by decide +kernel
theorem dX7_goNights_106 : decode cX7_goNights 106 = .ok (.return_, 1) := by decide +kernel
set_option maxRecDepth 20000 in
theorem ggX7_refusal_X7_keepNow : GoodIn wsX7_refusal wsX7_keepNow := goodIn_r _ [6, 7, 8, 9, 10, 11, 12, 13, 14, 90, 91, 92, 93, 94, 95, 96, 97, 98, 99, 100, 101, 102, 103, 104, 105, 106, 107, 108, 109, 110, 111, 112, 113, 114, 115, 116, 117, 118, 119, 120, 121, 122, 123] (by decide +kernel) (by decide +kernel)
set_option maxRecDepth 20000 in
theorem gX7_refusal_X7_keepNow : GoodIn wsX7_refusal (wsV RX7 181 RX7 yX7_keepNow wsX7_keepNow) := goodIn_app (goodIn_of _ (by decide +kernel)) ggX7_refusal_X7_keepNow
set_option maxRecDepth 20000 in
theorem ggX7_refusal_X7_fault : GoodIn wsX7_refusal wsX7_fault := goodIn_r _ [18, 19, 20, 21, 22, 23, 24, 5, 25, 26, 27, 28, 29, 30, 31, 32, 33, 34, 35, 36, 37, 38, 39, 40, 41, 42, 43, 44, 90, 91, 92, 93, 94, 95, 96, 97, 98, 99, 100, 101, 102, 103, 104, 105, 106, 107, 108, 109, 110, 111, 112, 113, 114, 115, 116, 117, 118, 119, 120, 121, 122, 123] (by decide +kernel) (by decide +kernel)
set_option maxRecDepth 20000 in
theorem gX7_refusal_X7_fault : GoodIn wsX7_refusal (wsV RX7 184 RX7 yX7_fault wsX7_fault) := goodIn_app (goodIn_of _ (by decide +kernel)) ggX7_refusal_X7_fault
set_option maxRecDepth 20000 in
theorem ggX7_refusal_X7_goNights : GoodIn wsX7_refusal wsX7_goNights := goodIn_r _ [48, 1, 49, 50, 51, 52, 19, 43, 26, 53, 54, 55, 5, 56, 11, 57, 12, 14, 58, 59, 60, 61, 10, 44, 62, 63, 64, 65, 66, 67, 68, 69, 13, 70, 71, 72, 73, 74, 75, 76, 77, 78, 79, 80, 9, 8, 81, 82, 83, 84, 85, 86, 87, 88, 89, 90, 91, 92, 93, 94, 95, 96, 97, 98, 99, 100, 101, 102, 103, 104, 105, 106, 107, 108, 109, 110, 111, 112, 113, 114, 115, 116, 117, 118, 119, 120, 121, 122, 123] (by decide +kernel) (by decide +kernel)
set_option maxRecDepth 20000 in
theorem gX7_refusal_X7_goNights : GoodIn wsX7_refusal (wsV RX7 188 RX7 yX7_goNights wsX7_goNights) := goodIn_app (goodIn_of _ (by decide +kernel)) ggX7_refusal_X7_goNights
theorem dX7_refusal_0 : decode cX7_refusal 0 = .ok (.aload_n 0, 1) := by decide +kernel
theorem dX7_refusal_1 : decode cX7_refusal 1 = .ok (.invokevirtual 181, 3) := by decide +kernel
theorem dX7_refusal_4 : decode cX7_refusal 4 = .ok (.aload_n 0, 1) := by decide +kernel
theorem dX7_refusal_5 : decode cX7_refusal 5 = .ok (.invokevirtual 184, 3) := by decide +kernel
theorem dX7_refusal_8 : decode cX7_refusal 8 = .ok (.ifCond .lt 6, 3) := by decide +kernel
theorem dX7_refusal_11 : decode cX7_refusal 11 = .ok (.bipush (-5), 2) := by decide +kernel
theorem dX7_refusal_13 : decode cX7_refusal 13 = .ok (.ireturn, 1) := by decide +kernel
theorem dX7_refusal_14 : decode cX7_refusal 14 = .ok (.aload_n 0, 1) := by decide +kernel
theorem dX7_refusal_15 : decode cX7_refusal 15 = .ok (.invokevirtual 188, 3) := by decide +kernel
theorem dX7_refusal_18 : decode cX7_refusal 18 = .ok (.aload_n 0, 1) := by decide +kernel
theorem dX7_refusal_19 : decode cX7_refusal 19 = .ok (.getfield 169, 3) := by decide +kernel
theorem dX7_refusal_22 : decode cX7_refusal 22 = .ok (.ifCond .lt 8, 3) := by decide +kernel
theorem dX7_refusal_25 : decode cX7_refusal 25 = .ok (.bipush (-3), 2) := by decide +kernel
theorem dX7_refusal_27 : decode cX7_refusal 27 = .ok (.goto 5, 3) := by decide +kernel
theorem dX7_refusal_30 : decode cX7_refusal 30 = .ok (.bipush (-6), 2) := by decide +kernel
theorem dX7_refusal_32 : decode cX7_refusal 32 = .ok (.ireturn, 1) := by decide +kernel
set_option maxRecDepth 20000 in
theorem ggX7_judge_X7_in : GoodIn wsX7_judge wsX7_in := goodIn_r _ [8] (by decide +kernel) (by decide +kernel)
set_option maxRecDepth 20000 in
theorem gX7_judge_X7_in : GoodIn wsX7_judge (va_wsS RX7 78 yX7_in wsX7_in) := goodIn_app (goodIn_of _ (by decide +kernel)) ggX7_judge_X7_in
set_option maxRecDepth 20000 in
theorem ggX7_judge_X7_refusal : GoodIn wsX7_judge wsX7_refusal := goodIn_r _ [12, 2, 13, 14, 15, 7, 16, 17, 18, 19, 20, 21, 22, 23, 24, 25, 26, 27, 28, 29, 30, 31, 32, 33, 34, 35, 36, 37, 38, 39, 40, 41, 42, 43, 44, 45, 5, 6, 8, 46, 47, 48, 49, 50, 51, 52, 53, 54, 55, 3, 4, 56, 57, 58, 59, 60, 61, 62, 63, 64, 65, 66, 67, 68, 69, 70, 71, 72, 73, 74, 75, 76, 77, 78, 79, 80, 81, 82, 83, 84, 85, 86, 87, 88, 89, 90, 91, 92, 93, 94, 99, 100, 101, 102, 103, 104, 105, 106, 107, 108, 109, 110, 111, 112, 113, 114, 115, 116, 117, 118, 119, 120, 121, 122, 123, 124, 125, 126, 127, 128, 129, 130, 131, 132] (by decide +kernel) (by decide +kernel)
set_option maxRecDepth 20000 in
theorem gX7_judge_X7_refusal : GoodIn wsX7_judge (wsV RX7 193 RX7 yX7_refusal wsX7_refusal) := goodIn_app (goodIn_of _ (by decide +kernel)) ggX7_judge_X7_refusal
set_option maxRecDepth 20000 in
theorem ggX7_judge_X7_back : GoodIn wsX7_judge wsX7_back := goodIn_r _ [98, 18, 17, 19, 20, 21, 22, 23, 24, 99, 100, 101, 102, 103, 104, 105, 106, 107, 108, 109, 110, 111, 112, 113, 114, 115, 116, 117, 118, 119, 120, 121, 122, 123, 124, 125, 126, 127, 128, 129, 130, 131, 132] (by decide +kernel) (by decide +kernel)
set_option maxRecDepth 20000 in
theorem gX7_judge_X7_back : GoodIn wsX7_judge (wsV RX7 196 RX7 yX7_back wsX7_back) := goodIn_app (goodIn_of _ (by decide +kernel)) ggX7_judge_X7_back
