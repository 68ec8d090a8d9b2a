theorem dX7_embers_6 : decode cX7_embers 6 = .ok (.invokestatic 78, 3) := by decide +kernel
theorem dX7_embers_9 : decode cX7_embers 9 = .ok (.ifCond .eq 13, 3) := by decide +kernel
theorem dX7_embers_12 : decode cX7_embers 12 = .ok (.iload_n 2, 1) := by decide +kernel
theorem dX7_embers_13 : decode cX7_embers 13 = .ok (.i2l, 1) := by decide +kernel
theorem dX7_embers_14 : decode cX7_embers 14 = .ok (.lconst 0, 1) := by decide +kernel
theorem dX7_embers_15 : decode cX7_embers 15 = .ok (.lconst 1, 1) := by decide +kernel
theorem dX7_embers_16 : decode cX7_embers 16 = .ok (.invokestatic 78, 3) := by decide +kernel
theorem dX7_embers_19 : decode cX7_embers 19 = .ok (.ifCond .ne 6, 3) := by decide +kernel
theorem dX7_embers_22 : decode cX7_embers 22 = .ok (.bipush (-2), 2) := by decide +kernel
theorem dX7_embers_24 : decode cX7_embers 24 = .ok (.ireturn, 1) := by decide +kernel
theorem dX7_embers_25 : decode cX7_embers 25 = .ok (.aload_n 0, 1) := by decide +kernel
theorem dX7_embers_26 : decode cX7_embers 26 = .ok (.iload_n 1, 1) := by decide +kernel
theorem dX7_embers_27 : decode cX7_embers 27 = .ok (.invokevirtual 273, 3) := by decide +kernel
theorem dX7_embers_30 : decode cX7_embers 30 = .ok (.bipush (-6), 2) := by decide +kernel
theorem dX7_embers_32 : decode cX7_embers 32 = .ok (.istore_n 3, 1) := by decide +kernel
theorem dX7_embers_33 : decode cX7_embers 33 = .ok (.iload_n 1, 1) := by decide +kernel
theorem dX7_embers_34 : decode cX7_embers 34 = .ok (.iconst 1, 1) := by decide +kernel
theorem dX7_embers_35 : decode cX7_embers 35 = .ok (.isub, 1) := by decide +kernel
theorem dX7_embers_36 : decode cX7_embers 36 = .ok (.istore 4, 2) := by decide +kernel
theorem dX7_embers_38 : decode cX7_embers 38 = .ok (.iload 4, 2) := by decide +kernel
theorem dX7_embers_40 : decode cX7_embers 40 = .ok (.ifCond .le 26, 3) := by decide +kernel
theorem dX7_embers_43 : decode cX7_embers 43 = .ok (.aload_n 0, 1) := by decide +kernel
theorem dX7_embers_44 : decode cX7_embers 44 = .ok (.iload_n 1, 1) := by decide +kernel
theorem dX7_embers_45 : decode cX7_embers 45 = .ok (.iload 4, 2) := by decide +kernel
theorem dX7_embers_47 : decode cX7_embers 47 = .ok (.invokevirtual 268, 3) := by decide +kernel
theorem dX7_embers_50 : decode cX7_embers 50 = .ok (.ifCond .eq 8, 3) := by decide +kernel
theorem dX7_embers_53 : decode cX7_embers 53 = .ok (.iload 4, 2) := by decide +kernel
theorem dX7_embers_55 : decode cX7_embers 55 = .ok (.goto 4, 3) := by decide +kernel
theorem dX7_embers_58 : decode cX7_embers 58 = .ok (.iload_n 3, 1) := by decide +kernel
theorem dX7_embers_59 : decode cX7_embers 59 = .ok (.istore_n 3, 1) := by decide +kernel
theorem dX7_embers_60 : decode cX7_embers 60 = .ok (.iinc 4 (-1), 3) := by decide +kernel
theorem dX7_embers_63 : decode cX7_embers 63 = .ok (.goto (-25), 3) := by decide +kernel
theorem dX7_embers_66 : decode cX7_embers 66 = .ok (.iload_n 2, 1) := by decide +kernel
theorem dX7_embers_67 : decode cX7_embers 67 = .ok (.iconst 1, 1) := by decide +kernel
theorem dX7_embers_68 : decode cX7_embers 68 = .ok (.if_icmp .ne 7, 3) := by decide +kernel
theorem dX7_embers_71 : decode cX7_embers 71 = .ok (.iload_n 3, 1) := by decide +kernel
theorem dX7_embers_72 : decode cX7_embers 72 = .ok (.goto 12, 3) := by decide +kernel
theorem dX7_embers_75 : decode cX7_embers 75 = .ok (.iload_n 3, 1) := by decide +kernel
theorem dX7_embers_76 : decode cX7_embers 76 = .ok (.ifCond .ge 7, 3) := by decide +kernel
theorem dX7_embers_79 : decode cX7_embers 79 = .ok (.iconst 0, 1) := by decide +kernel
theorem dX7_embers_80 : decode cX7_embers 80 = .ok (.goto 4, 3) := by decide +kernel
theorem dX7_embers_83 : decode cX7_embers 83 = .ok (.iconst 1, 1) := by decide +kernel
theorem dX7_embers_84 : decode cX7_embers 84 = .ok (.ireturn, 1) := by decide +kernel
theorem dX7_actBy_0 : decode cX7_actBy 0 = .ok (.iload_n 0, 1) := by decide +kernel
theorem dX7_actBy_1 : decode cX7_actBy 1 = .ok (.iconst 3, 1) := by decide +kernel
theorem dX7_actBy_2 : decode cX7_actBy 2 = .ok (.if_icmp .ge 7, 3) := by decide +kernel
theorem dX7_actBy_5 : decode cX7_actBy 5 = .ok (.iconst 1, 1) := by decide +kernel
theorem dX7_actBy_6 : decode cX7_actBy 6 = .ok (.goto 32, 3) := by decide +kernel
theorem dX7_actBy_9 : decode cX7_actBy 9 = .ok (.iload_n 0, 1) := by decide +kernel
theorem dX7_actBy_10 : decode cX7_actBy 10 = .ok (.iconst 5, 1) := by decide +kernel
theorem dX7_actBy_11 : decode cX7_actBy 11 = .ok (.if_icmp .ge 7, 3) := by decide +kernel
theorem dX7_actBy_14 : decode cX7_actBy 14 = .ok (.iconst 2, 1) := by decide +kernel
theorem dX7_actBy_15 : decode cX7_actBy 15 = .ok (.goto 23, 3) := by decide +kernel
theorem dX7_actBy_18 : decode cX7_actBy 18 = .ok (.iload_n 0, 1) := by decide +kernel
theorem dX7_actBy_19 : decode cX7_actBy 19 = .ok (.iconst 5, 1) := by decide +kernel
theorem dX7_actBy_20 : decode cX7_actBy 20 = .ok (.if_icmp .ne 7, 3) := by decide +kernel
theorem dX7_actBy_23 : decode cX7_actBy 23 = .ok (.iconst 3, 1) := by decide +kernel
theorem dX7_actBy_24 : decode cX7_actBy 24 = .ok (.goto 14, 3) := by decide +kernel
theorem dX7_actBy_27 : decode cX7_actBy 27 = .ok (.iload_n 0, 1) := by decide +kernel
theorem dX7_actBy_28 : decode cX7_actBy 28 = .ok (.bipush 6, 2) := by decide +kernel
theorem dX7_actBy_30 : decode cX7_actBy 30 = .ok (.if_icmp .ne 7, 3) := by decide +kernel
theorem dX7_actBy_33 : decode cX7_actBy 33 = .ok (.iconst 0, 1) := by decide +kernel
theorem dX7_actBy_34 : decode cX7_actBy 34 = .ok (.goto 4, 3) := by decide +kernel
theorem dX7_actBy_37 : decode cX7_actBy 37 = .ok (.iconst 4, 1) := by decide +kernel
theorem dX7_actBy_38 : decode cX7_actBy 38 = .ok (.ireturn, 1) := by decide +kernel
set_option maxRecDepth 20000 in
theorem ggX7_talesBelieved_X7_believing : GoodIn wsX7_talesBelieved wsX7_believing := goodIn_r _ [5, 6, 7, 8, 9, 10, 11, 12, 13, 14, 15, 16, 17, 18, 19, 20, 21, 22, 23, 24, 25, 26, 27, 28, 29, 30, 31, 32, 33, 34, 35, 36, 37, 38, 39, 40] (by decide +kernel) (by decide +kernel)
set_option maxRecDepth 20000 in
theorem gX7_talesBelieved_X7_believing : GoodIn wsX7_talesBelieved (wsV RX7 207 RX7 yX7_believing wsX7_believing) := goodIn_app (goodIn_of _ (by decide +kernel)) ggX7_talesBelieved_X7_believing
theorem dX7_talesBelieved_0 : decode cX7_talesBelieved 0 = .ok (.iconst 0, 1) := by decide +kernel
theorem dX7_talesBelieved_1 : decode cX7_talesBelieved 1 = .ok (.istore_n 1, 1) := by decide +kernel
theorem dX7_talesBelieved_2 : decode cX7_talesBelieved 2 = .ok (.iconst 0, 1) := by decide +kernel
theorem dX7_talesBelieved_3 : decode cX7_talesBelieved 3 = .ok (.istore_n 2, 1) := by decide +kernel
theorem dX7_talesBelieved_4 : decode cX7_talesBelieved 4 = .ok (.iload_n 2, 1) := by decide +kernel
theorem dX7_talesBelieved_5 : decode cX7_talesBelieved 5 = .ok (.bipush 10, 2) := by decide +kernel
theorem dX7_talesBelieved_7 : decode cX7_talesBelieved 7 = .ok (.if_icmp .ge 25, 3) := by decide +kernel
theorem dX7_talesBelieved_10 : decode cX7_talesBelieved 10 = .ok (.iload_n 1, 1) := by decide +kernel
theorem dX7_talesBelieved_11 : decode cX7_talesBelieved 11 = .ok (.aload_n 0, 1) := by decide +kernel
theorem dX7_talesBelieved_12 : decode cX7_talesBelieved 12 = .ok (.iload_n 2, 1) := by decide +kernel
theorem dX7_talesBelieved_13 : decode cX7_talesBelieved 13 = .ok (.invokevirtual 207, 3) := by decide +kernel
theorem dX7_talesBelieved_16 : decode cX7_talesBelieved 16 = .ok (.ifCond .eq 7, 3) := by decide +kernel
theorem dX7_talesBelieved_19 : decode cX7_talesBelieved 19 = .ok (.iconst 1, 1) := by decide +kernel
theorem dX7_talesBelieved_20 : decode cX7_talesBelieved 20 = .ok (.goto 4, 3) := by decide +kernel
theorem dX7_talesBelieved_23 : decode cX7_talesBelieved 23 = .ok (.iconst 0, 1) := by decide +kernel
theorem dX7_talesBelieved_24 : decode cX7_talesBelieved 24 = .ok (.iadd, 1) := by decide +kernel
theorem dX7_talesBelieved_25 : decode cX7_talesBelieved 25 = .ok (.istore_n 1, 1) := by decide +kernel
theorem dX7_talesBelieved_26 : decode cX7_talesBelieved 26 = .ok (.iinc 2 1, 3) := by decide +kernel
theorem dX7_talesBelieved_29 : decode cX7_talesBelieved 29 = .ok (.goto (-25), 3) := by decide +kernel
theorem dX7_talesBelieved_32 : decode cX7_talesBelieved 32 = .ok (.iload_n 1, 1) := by decide +kernel
theorem dX7_talesBelieved_33 : decode cX7_talesBelieved 33 = .ok (.ireturn, 1) := by decide +kernel
theorem dX7_doubts_0 : decode cX7_doubts 0 = .ok (.iconst 0, 1) := by decide +kernel
theorem dX7_doubts_1 : decode cX7_doubts 1 = .ok (.istore_n 1, 1) := by decide +kernel
theorem dX7_doubts_2 : decode cX7_doubts 2 = .ok (.iconst 0, 1) := by decide +kernel
theorem dX7_doubts_3 : decode cX7_doubts 3 = .ok (.istore_n 2, 1) := by decide +kernel
theorem dX7_doubts_4 : decode cX7_doubts 4 = .ok (.iload_n 2, 1) := by decide +kernel
theorem dX7_doubts_5 : decode cX7_doubts 5 = .ok (.bipush 10, 2) := by decide +kernel
theorem dX7_doubts_7 : decode cX7_doubts 7 = .ok (.if_icmp .ge 18, 3) := by decide +kernel
theorem dX7_doubts_10 : decode cX7_doubts 10 = .ok (.iload_n 1, 1) := by decide +kernel
theorem dX7_doubts_11 : decode cX7_doubts 11 = .ok (.aload_n 0, 1) := by decide +kernel
theorem dX7_doubts_12 : decode cX7_doubts 12 = .ok (.getfield 13, 3) := by decide +kernel
theorem dX7_doubts_15 : decode cX7_doubts 15 = .ok (.iload_n 2, 1) := by decide +kernel
theorem dX7_doubts_16 : decode cX7_doubts 16 = .ok (.iaload, 1) := by decide +kernel
theorem dX7_doubts_17 : decode cX7_doubts 17 = .ok (.iadd, 1) := by decide +kernel
theorem dX7_doubts_18 : decode cX7_doubts 18 = .ok (.istore_n 1, 1) := by decide +kernel
theorem dX7_doubts_19 : decode cX7_doubts 19 = .ok (.iinc 2 1, 3) := by decide +kernel
theorem dX7_doubts_22 : decode cX7_doubts 22 = .ok (.goto (-18), 3) := by decide +kernel
theorem dX7_doubts_25 : decode cX7_doubts 25 = .ok (.iload_n 1, 1) := by decide +kernel
theorem dX7_doubts_26 : decode cX7_doubts 26 = .ok (.ireturn, 1) := by decide +kernel
set_option maxRecDepth 20000 in
theorem ggX7_year_X7_in : GoodIn wsX7_year wsX7_in := goodIn_r _ [10] (by decide +kernel) (by decide +kernel)
set_option maxRecDepth 20000 in
theorem gX7_year_X7_in : GoodIn wsX7_year (va_wsS RX7 78 yX7_in wsX7_in) := goodIn_app (goodIn_of _ (by decide +kernel)) ggX7_year_X7_in
set_option maxRecDepth 20000 in
theorem ggX7_year_X7_keepNow : GoodIn wsX7_year wsX7_keepNow := goodIn_r _ [14, 15, 16, 17, 18, 19, 20, 21, 22, 78, 79, 80, 81, 82, 83, 84, 85, 86, 87, 88, 89, 90, 91, 92, 93, 94, 95, 96, 97, 98, 99, 100, 101, 102, 103, 104, 105, 106, 107, 108, 109, 110, 111] (by decide +kernel) (by decide +kernel)
set_option maxRecDepth 20000 in
theorem gX7_year_X7_keepNow : GoodIn wsX7_year (wsV RX7 181 RX7 yX7_keepNow wsX7_keepNow) := goodIn_app (goodIn_of _ (by decide +kernel)) ggX7_year_X7_keepNow
set_option maxRecDepth 20000 in
theorem ggX7_year_X7_actBy : GoodIn wsX7_year wsX7_actBy := goodIn_r _ [25] (by decide +kernel) (by decide +kernel)
set_option maxRecDepth 20000 in
theorem gX7_year_X7_actBy : GoodIn wsX7_year (va_wsS RX7 282 yX7_actBy wsX7_actBy) := goodIn_app (goodIn_of _ (by decide +kernel)) ggX7_year_X7_actBy
set_option maxRecDepth 20000 in
theorem ggX7_year_X7_whyNot : GoodIn wsX7_year wsX7_whyNot := goodIn_r _ [29, 19, 30, 20, 22, 78, 79, 80, 81, 82, 83, 84, 85, 86, 87, 88, 89, 90, 91, 92, 93, 94, 95, 96, 97, 98, 99, 100, 101, 102, 103, 104, 105, 106, 107, 108, 109, 110, 111] (by decide +kernel) (by decide +kernel)
set_option maxRecDepth 20000 in
theorem gX7_year_X7_whyNot : GoodIn wsX7_year (wsV RX7 175 RX7 yX7_whyNot wsX7_whyNot) := goodIn_app (goodIn_of _ (by decide +kernel)) ggX7_year_X7_whyNot
set_option maxRecDepth 20000 in
theorem ggX7_year_X7_happen : GoodIn wsX7_year wsX7_happen := goodIn_r _ [34, 35, 36, 37, 9, 38, 21, 20, 39, 40, 41, 42, 30, 19, 43, 44, 45, 46, 47, 48, 49, 17, 16, 18, 50, 51, 52, 53, 54, 55, 56, 57, 58, 22, 78, 79, 80, 81, 82, 83, 84, 85, 86, 87, 88, 89, 90, 91, 92, 93, 94, 95, 96, 97, 98, 99, 100, 101, 102, 103, 104, 105, 106, 107, 108, 109, 110, 111] (by decide +kernel) (by decide +kernel)
set_option maxRecDepth 20000 in
theorem gX7_year_X7_happen : GoodIn wsX7_year (wsV RX7 156 RX7 yX7_happen wsX7_happen) := goodIn_app (goodIn_of _ (by decide +kernel)) ggX7_year_X7_happen
set_option maxRecDepth 20000 in
theorem ggX7_year_X7_believing : GoodIn wsX7_year wsX7_believing := goodIn_r _ [62, 18, 78, 79, 80, 81, 82, 83, 84, 85, 86, 87, 88, 89, 90, 91, 92, 93, 94, 95, 96, 97, 98, 99, 100, 101, 102, 103, 104, 105, 106, 107, 108, 109, 110, 111] (by decide +kernel) (by decide +kernel)
set_option maxRecDepth 20000 in
theorem gX7_year_X7_believing : GoodIn wsX7_year (wsV RX7 207 RX7 yX7_believing wsX7_believing) := goodIn_app (goodIn_of _ (by decide +kernel)) ggX7_year_X7_believing
set_option maxRecDepth 20000 in
theorem ggX7_year_X7_ones : GoodIn wsX7_year wsX7_ones := goodIn_r _ [65] (by decide +kernel) (by decide +kernel)
set_option maxRecDepth 20000 in
theorem gX7_year_X7_ones : GoodIn wsX7_year (va_wsS RX7 225 yX7_ones wsX7_ones) := goodIn_app (goodIn_of _ (by decide +kernel)) ggX7_year_X7_ones
set_option maxRecDepth 20000 in
theorem ggX7_year_X7_talesBelieved : GoodIn wsX7_year wsX7_talesBelieved := goodIn_r _ [69, 59, 60, 61, 9, 62, 18, 78, 79, 80, 81, 82, 83, 84, 85, 86, 87, 88, 89, 90, 91, 92, 93, 94, 95, 96, 97, 98, 99, 100, 101, 102, 103, 104, 105, 106, 107, 108, 109, 110, 111] (by decide +kernel) (by decide +kernel)
set_option maxRecDepth 20000 in
theorem gX7_year_X7_talesBelieved : GoodIn wsX7_year (wsV RX7 285 RX7 yX7_talesBelieved wsX7_talesBelieved) := goodIn_app (goodIn_of _ (by decide +kernel)) ggX7_year_X7_talesBelieved
set_option maxRecDepth 20000 in
theorem ggX7_year_X7_doubts : GoodIn wsX7_year wsX7_doubts := goodIn_r _ [73, 16, 78, 79, 80, 81, 82, 83, 84, 85, 86, 87, 88, 89, 90, 91, 92, 93, 94, 95, 96, 97, 98, 99, 100, 101, 102, 103, 104, 105, 106, 107, 108, 109, 110, 111] (by decide +kernel) (by decide +kernel)
set_option maxRecDepth 20000 in
theorem gX7_year_X7_doubts : GoodIn wsX7_year (wsV RX7 288 RX7 yX7_doubts wsX7_doubts) := goodIn_app (goodIn_of _ (by decide +kernel)) ggX7_year_X7_doubts
set_option maxRecDepth 20000 in
theorem ggX7_year_X7_back : GoodIn wsX7_year wsX7_back := goodIn_r _ [77, 16, 15, 17, 18, 19, 20, 21, 22, 78, 79, 80, 81, 82, 83, 84, 85, 86, 87, 88, 89, 90, 91, 92, 93, 94, 95, 96, 97, 98, 99, 100, 101, 102, 103, 104, 105, 106, 107, 108, 109, 110, 111] (by decide +kernel) (by decide +kernel)
set_option maxRecDepth 20000 in
theorem gX7_year_X7_back : GoodIn wsX7_year (wsV RX7 196 RX7 yX7_back wsX7_back) := goodIn_app (goodIn_of _ (by decide +kernel)) ggX7_year_X7_back
theorem dX7_year_0 : decode cX7_year 0 = .ok (.iload_n 1, 1) := by decide +kernel
theorem dX7_year_1 : decode cX7_year 1 = .ok (.i2l, 1) := by decide +kernel
theorem dX7_year_2 : decode cX7_year 2 = .ok (.lconst 0, 1) := by decide +kernel
theorem dX7_year_3 : decode cX7_year 3 = .ok (.ldc2_w 276, 3) := by decide +kernel
theorem dX7_year_6 : decode cX7_year 6 = .ok (.invokestatic 78, 3) := by decide +kernel
theorem dX7_year_9 : decode cX7_year 9 = .ok (.ifCond .eq 27, 3) := by decide +kernel
theorem dX7_year_12 : decode cX7_year 12 = .ok (.iload_n 2, 1) := by decide +kernel
theorem dX7_year_13 : decode cX7_year 13 = .ok (.i2l, 1) := by decide +kernel
theorem dX7_year_14 : decode cX7_year 14 = .ok (.lconst 1, 1) := by decide +kernel
theorem dX7_year_15 : decode cX7_year 15 = .ok (.ldc2_w 219, 3) := by decide +kernel
theorem dX7_year_18 : decode cX7_year 18 = .ok (.invokestatic 78, 3) := by decide +kernel
theorem dX7_year_21 : decode cX7_year 21 = .ok (.ifCond .eq 15, 3) := by decide +kernel
theorem dX7_year_24 : decode cX7_year 24 = .ok (.iload_n 3, 1) := by decide +kernel
theorem dX7_year_25 : decode cX7_year 25 = .ok (.i2l, 1) := by decide +kernel
theorem dX7_year_26 : decode cX7_year 26 = .ok (.lconst 0, 1) := by decide +kernel
theorem dX7_year_27 : decode cX7_year 27 = .ok (.ldc2_w 191, 3) := by decide +kernel
theorem dX7_year_30 : decode cX7_year 30 = .ok (.invokestatic 78, 3) := by decide +kernel
theorem dX7_year_33 : decode cX7_year 33 = .ok (.ifCond .ne 6, 3) := by decide +kernel
theorem dX7_year_36 : decode cX7_year 36 = .ok (.bipush (-2), 2) := by decide +kernel
theorem dX7_year_38 : decode cX7_year 38 = .ok (.ireturn, 1) := by decide +kernel
theorem dX7_year_39 : decode cX7_year 39 = .ok (.aload_n 0, 1) := by decide +kernel
theorem dX7_year_40 : decode cX7_year 40 = .ok (.invokevirtual 181, 3) := by decide +kernel
theorem dX7_year_43 : decode cX7_year 43 = .ok (.iload_n 1, 1) := by decide +kernel
theorem dX7_year_44 : decode cX7_year 44 = .ok (.istore 4, 2) := by decide +kernel
theorem dX7_year_46 : decode cX7_year 46 = .ok (.iconst 0, 1) := by decide +kernel
theorem dX7_year_47 : decode cX7_year 47 = .ok (.istore 5, 2) := by decide +kernel
theorem dX7_year_49 : decode cX7_year 49 = .ok (.iload 5, 2) := by decide +kernel
theorem dX7_year_51 : decode cX7_year 51 = .ok (.iload_n 2, 1) := by decide +kernel
theorem dX7_year_52 : decode cX7_year 52 = .ok (.if_icmp .ge 94, 3) := by decide +kernel
theorem dX7_year_55 : decode cX7_year 55 = .ok (.ldc2_w 278, 3) := by decide +kernel
theorem dX7_year_58 : decode cX7_year 58 = .ok (.iload 4, 2) := by decide +kernel
theorem dX7_year_60 : decode cX7_year 60 = .ok (.i2l, 1) := by decide +kernel
theorem dX7_year_61 : decode cX7_year 61 = .ok (.lmul, 1) := by decide +kernel
theorem dX7_year_62 : decode cX7_year 62 = .ok (.ldc2_w 108, 3) := by decide +kernel
theorem dX7_year_65 : decode cX7_year 65 = .ok (.ladd, 1) := by decide +kernel
theorem dX7_year_66 : decode cX7_year 66 = .ok (.ldc2_w 280, 3) := by decide +kernel
theorem dX7_year_69 : decode cX7_year 69 = .ok (.lrem, 1) := by decide +kernel
theorem dX7_year_70 : decode cX7_year 70 = .ok (.l2i, 1) := by decide +kernel
theorem dX7_year_71 : decode cX7_year 71 = .ok (.istore 4, 2) := by decide +kernel
theorem dX7_year_73 : decode cX7_year 73 = .ok (.iload 4, 2) := by decide +kernel
theorem dX7_year_75 : decode cX7_year 75 = .ok (.bipush 8, 2) := by decide +kernel
theorem dX7_year_77 : decode cX7_year 77 = .ok (.irem, 1) := by decide +kernel
theorem dX7_year_78 : decode cX7_year 78 = .ok (.invokestatic 282, 3) := by decide +kernel
theorem dX7_year_81 : decode cX7_year 81 = .ok (.istore 6, 2) := by decide +kernel
theorem dX7_year_83 : decode cX7_year 83 = .ok (.iload 4, 2) := by decide +kernel
theorem dX7_year_85 : decode cX7_year 85 = .ok (.bipush 8, 2) := by decide +kernel
theorem dX7_year_87 : decode cX7_year 87 = .ok (.idiv, 1) := by decide +kernel
theorem dX7_year_88 : decode cX7_year 88 = .ok (.iload 6, 2) := by decide +kernel
theorem dX7_year_90 : decode cX7_year 90 = .ok (.iconst 1, 1) := by decide +kernel
theorem dX7_year_91 : decode cX7_year 91 = .ok (.if_icmp .ne 8, 3) := by decide +kernel
theorem dX7_year_94 : decode cX7_year 94 = .ok (.bipush 11, 2) := by decide +kernel
theorem dX7_year_96 : decode cX7_year 96 = .ok (.goto 5, 3) := by decide +kernel
theorem dX7_year_99 : decode cX7_year 99 = .ok (.bipush 10, 2) := by decide +kernel
theorem dX7_year_101 : decode cX7_year 101 = .ok (.irem, 1) := by decide +kernel
theorem dX7_year_102 : decode cX7_year 102 = .ok (.istore 7, 2) := by decide +kernel
theorem dX7_year_104 : decode cX7_year 104 = .ok (.bipush 10, 2) := by decide +kernel
theorem dX7_year_106 : decode cX7_year 106 = .ok (.iconst 1, 1) := by decide +kernel
theorem dX7_year_107 : decode cX7_year 107 = .ok (.iload 4, 2) := by decide +kernel
theorem dX7_year_109 : decode cX7_year 109 = .ok (.bipush 80, 2) := by decide +kernel
theorem dX7_year_111 : decode cX7_year 111 = .ok (.idiv, 1) := by decide +kernel
theorem dX7_year_112 : decode cX7_year 112 = .ok (.bipush 9, 2) := by decide +kernel
theorem dX7_year_114 : decode cX7_year 114 = .ok (.irem, 1) := by decide +kernel
theorem dX7_year_115 : decode cX7_year 115 = .ok (.iadd, 1) := by decide +kernel
theorem dX7_year_116 : decode cX7_year 116 = .ok (.imul, 1) := by decide +kernel
theorem dX7_year_117 : decode cX7_year 117 = .ok (.istore 8, 2) := by decide +kernel
theorem dX7_year_119 : decode cX7_year 119 = .ok (.aload_n 0, 1) := by decide +kernel
theorem dX7_year_120 : decode cX7_year 120 = .ok (.iload 6, 2) := by decide +kernel
theorem dX7_year_122 : decode cX7_year 122 = .ok (.iload 7, 2) := by decide +kernel
theorem dX7_year_124 : decode cX7_year 124 = .ok (.invokevirtual 175, 3) := by decide +kernel
theorem dX7_year_127 : decode cX7_year 127 = .ok (.ifCond .ne 13, 3) := by decide +kernel
theorem dX7_year_130 : decode cX7_year 130 = .ok (.aload_n 0, 1) := by decide +kernel
theorem dX7_year_131 : decode cX7_year 131 = .ok (.iload 6, 2) := by decide +kernel
theorem dX7_year_133 : decode cX7_year 133 = .ok (.iload 7, 2) := by decide +kernel
theorem dX7_year_135 : decode cX7_year 135 = .ok (.iload 8, 2) := by decide +kernel
theorem dX7_year_137 : decode cX7_year 137 = .ok (.invokevirtual 156, 3) := by decide +kernel
theorem dX7_year_140 : decode cX7_year 140 = .ok (.iinc 5 1, 3) := by decide +kernel
theorem dX7_year_143 : decode cX7_year 143 = .ok (.goto (-94), 3) := by decide +kernel
theorem dX7_year_146 : decode cX7_year 146 = .ok (.iload_n 3, 1) := by decide +kernel
theorem dX7_year_147 : decode cX7_year 147 = .ok (.ifCond .ne 18, 3) := by decide +kernel
theorem dX7_year_150 : decode cX7_year 150 = .ok (.bipush 10, 2) := by decide +kernel
theorem dX7_year_152 : decode cX7_year 152 = .ok (.aload_n 0, 1) := by decide +kernel
theorem dX7_year_153 : decode cX7_year 153 = .ok (.bipush (-6), 2) := by decide +kernel
theorem dX7_year_155 : decode cX7_year 155 = .ok (.invokevirtual 207, 3) := by decide +kernel
theorem dX7_year_158 : decode cX7_year 158 = .ok (.invokestatic 225, 3) := by decide +kernel
theorem dX7_year_161 : decode cX7_year 161 = .ok (.isub, 1) := by decide +kernel
theorem dX7_year_162 : decode cX7_year 162 = .ok (.goto 19, 3) := by decide +kernel
theorem dX7_year_165 : decode cX7_year 165 = .ok (.iload_n 3, 1) := by decide +kernel
theorem dX7_year_166 : decode cX7_year 166 = .ok (.iconst 1, 1) := by decide +kernel
theorem dX7_year_167 : decode cX7_year 167 = .ok (.if_icmp .ne 10, 3) := by decide +kernel
theorem dX7_year_170 : decode cX7_year 170 = .ok (.aload_n 0, 1) := by decide +kernel
theorem dX7_year_171 : decode cX7_year 171 = .ok (.invokevirtual 285, 3) := by decide +kernel
theorem dX7_year_174 : decode cX7_year 174 = .ok (.goto 7, 3) := by decide +kernel
theorem dX7_year_177 : decode cX7_year 177 = .ok (.aload_n 0, 1) := by decide +kernel
theorem dX7_year_178 : decode cX7_year 178 = .ok (.invokevirtual 288, 3) := by decide +kernel
theorem dX7_year_181 : decode cX7_year 181 = .ok (.istore 5, 2) := by decide +kernel
theorem dX7_year_183 : decode cX7_year 183 = .ok (.aload_n 0, 1) := by decide +kernel
theorem dX7_year_184 : decode cX7_year 184 = .ok (.iload 5, 2) := by decide +kernel
theorem dX7_year_186 : decode cX7_year 186 = .ok (.invokevirtual 196, 3) := by decide +kernel
theorem dX7_year_189 : decode cX7_year 189 = .ok (.ireturn, 1) := by decide +kernel
theorem dX7_pass_0 : decode cX7_pass 0 = .ok (.aload_n 0, 1) := by decide +kernel
theorem dX7_pass_1 : decode cX7_pass 1 = .ok (.getfield 291, 3) := by decide +kernel
theorem dX7_pass_4 : decode cX7_pass 4 = .ok (.ifCond .eq 7, 3) := by decide +kernel
theorem dX7_pass_7 : decode cX7_pass 7 = .ok (.iload_n 1, 1) := by decide +kernel
theorem dX7_pass_8 : decode cX7_pass 8 = .ok (.goto 12, 3) := by decide +kernel
theorem dX7_pass_11 : decode cX7_pass 11 = .ok (.aload_n 0, 1) := by decide +kernel
theorem dX7_pass_12 : decode cX7_pass 12 = .ok (.getfield 66, 3) := by decide +kernel
theorem dX7_pass_15 : decode cX7_pass 15 = .ok (.aload_n 0, 1) := by decide +kernel
theorem dX7_pass_16 : decode cX7_pass 16 = .ok (.getfield 295, 3) := by decide +kernel
theorem dX7_pass_19 : decode cX7_pass 19 = .ok (.iaload, 1) := by decide +kernel
theorem dX7_pass_20 : decode cX7_pass 20 = .ok (.istore_n 2, 1) := by decide +kernel
theorem dX7_pass_21 : decode cX7_pass 21 = .ok (.aload_n 0, 1) := by decide +kernel
theorem dX7_pass_22 : decode cX7_pass 22 = .ok (.getfield 66, 3) := by decide +kernel
theorem dX7_pass_25 : decode cX7_pass 25 = .ok (.aload_n 0, 1) := by decide +kernel
theorem dX7_pass_26 : decode cX7_pass 26 = .ok (.getfield 295, 3) := by decide +kernel
theorem dX7_pass_29 : decode cX7_pass 29 = .ok (.iload_n 2, 1) := by decide +kernel
theorem dX7_pass_30 : decode cX7_pass 30 = .ok (.iastore, 1) := by decide +kernel
theorem dX7_pass_31 : decode cX7_pass 31 = .ok (.aload_n 0, 1) := by decide +kernel
theorem dX7_pass_32 : decode cX7_pass 32 = .ok (.dup, 1) := by decide +kernel
theorem dX7_pass_33 : decode cX7_pass 33 = .ok (.getfield 295, 3) := by decide +kernel
theorem dX7_pass_36 : decode cX7_pass 36 = .ok (.iconst 1, 1) := by decide +kernel
theorem dX7_pass_37 : decode cX7_pass 37 = .ok (.iadd, 1) := by decide +kernel
theorem dX7_pass_38 : decode cX7_pass 38 = .ok (.putfield 295, 3) := by decide +kernel
theorem dX7_pass_41 : decode cX7_pass 41 = .ok (.iload_n 2, 1) := by decide +kernel
theorem dX7_pass_42 : decode cX7_pass 42 = .ok (.ireturn, 1) := by decide +kernel
set_option maxRecDepth 20000 in
theorem ggX7_passRow_X7_pass : GoodIn wsX7_passRow wsX7_pass := goodIn_r _ [5, 6, 7, 8, 9, 10, 11, 12, 13, 14, 15, 16, 17, 18, 19, 20, 21, 22, 23, 24, 25, 26, 27, 28, 29, 30, 31, 32, 33, 34, 35, 36, 37, 38, 39, 40, 41, 42] (by decide +kernel) (by decide +kernel)
set_option maxRecDepth 20000 in
theorem gX7_passRow_X7_pass : GoodIn wsX7_passRow (wsV RX7 298 RX7 yX7_pass wsX7_pass) := goodIn_app (goodIn_of _ (by decide +kernel)) ggX7_passRow_X7_pass
theorem dX7_passRow_0 : decode cX7_passRow 0 = .ok (.iconst 0, 1) := by decide +kernel
theorem dX7_passRow_1 : decode cX7_passRow 1 = .ok (.istore_n 3, 1) := by decide +kernel
theorem dX7_passRow_2 : decode cX7_passRow 2 = .ok (.iload_n 3, 1) := by decide +kernel
theorem dX7_passRow_3 : decode cX7_passRow 3 = .ok (.iload_n 2, 1) := by decide +kernel
theorem dX7_passRow_4 : decode cX7_passRow 4 = .ok (.if_icmp .ge 19, 3) := by decide +kernel
theorem dX7_passRow_7 : decode cX7_passRow 7 = .ok (.aload_n 1, 1) := by decide +kernel
theorem dX7_passRow_8 : decode cX7_passRow 8 = .ok (.iload_n 3, 1) := by decide +kernel
theorem dX7_passRow_9 : decode cX7_passRow 9 = .ok (.aload_n 0, 1) := by decide +kernel
theorem dX7_passRow_10 : decode cX7_passRow 10 = .ok (.aload_n 1, 1) := by decide +kernel
theorem dX7_passRow_11 : decode cX7_passRow 11 = .ok (.iload_n 3, 1) := by decide +kernel
theorem dX7_passRow_12 : decode cX7_passRow 12 = .ok (.iaload, 1) := by decide +kernel
theorem dX7_passRow_13 : decode cX7_passRow 13 = .ok (.invokevirtual 298, 3) := by decide +kernel
theorem dX7_passRow_16 : decode cX7_passRow 16 = .ok (.iastore, 1) := by decide +kernel
theorem dX7_passRow_17 : decode cX7_passRow 17 = .ok (.iinc 3 1, 3) := by decide +kernel
theorem dX7_passRow_20 : decode cX7_passRow 20 = .ok (.goto (-18), 3) := by decide +kernel
theorem dX7_passRow_23 : decode cX7_passRow 23 = .ok (.return_, 1) := by decide +kernel
set_option maxRecDepth 20000 in
theorem ggX7_passAll_X7_pass : GoodIn wsX7_passAll wsX7_pass := goodIn_r _ [17, 18, 19, 20, 25, 26, 27, 28, 29, 30, 31, 32, 33, 34, 35, 36, 37, 38, 39, 40, 41, 42, 43, 44, 45, 46, 47, 48, 49, 50, 51, 52, 53, 54, 55, 56, 57, 58] (by decide +kernel) (by decide +kernel)
set_option maxRecDepth 20000 in
theorem gX7_passAll_X7_pass : GoodIn wsX7_passAll (wsV RX7 298 RX7 yX7_pass wsX7_pass) := goodIn_app (goodIn_of _ (by decide +kernel)) ggX7_passAll_X7_pass
set_option maxRecDepth 20000 in
theorem ggX7_passAll_X7_passRow : GoodIn wsX7_passAll wsX7_passRow := goodIn_r _ [24, 13, 14, 15, 16, 17, 18, 19, 20, 25, 26, 27, 28, 29, 30, 31, 32, 33, 34, 35, 36, 37, 38, 39, 40, 41, 42, 43, 44, 45, 46, 47, 48, 49, 50, 51, 52, 53, 54, 55, 56, 57, 58] (by decide +kernel) (by decide +kernel)
set_option maxRecDepth 20000 in
theorem gX7_passAll_X7_passRow : GoodIn wsX7_passAll (wsV RX7 301 RX7 yX7_passRow wsX7_passRow) := goodIn_app (goodIn_of _ (by decide +kernel)) ggX7_passAll_X7_passRow
theorem dX7_passAll_0 : decode cX7_passAll 0 = .ok (.aload_n 0, 1) := by decide +kernel
theorem dX7_passAll_1 : decode cX7_passAll 1 = .ok (.aload_n 0, 1) := by decide +kernel
theorem dX7_passAll_2 : decode cX7_passAll 2 = .ok (.aload_n 0, 1) := by decide +kernel
theorem dX7_passAll_3 : decode cX7_passAll 3 = .ok (.getfield 72, 3) := by decide +kernel
theorem dX7_passAll_6 : decode cX7_passAll 6 = .ok (.invokevirtual 298, 3) := by decide +kernel
theorem dX7_passAll_9 : decode cX7_passAll 9 = .ok (.putfield 72, 3) := by decide +kernel
theorem dX7_passAll_12 : decode cX7_passAll 12 = .ok (.aload_n 0, 1) := by decide +kernel
theorem dX7_passAll_13 : decode cX7_passAll 13 = .ok (.aload_n 0, 1) := by decide +kernel
theorem dX7_passAll_14 : decode cX7_passAll 14 = .ok (.aload_n 0, 1) := by decide +kernel
theorem dX7_passAll_15 : decode cX7_passAll 15 = .ok (.getfield 127, 3) := by decide +kernel
theorem dX7_passAll_18 : decode cX7_passAll 18 = .ok (.invokevirtual 298, 3) := by decide +kernel
theorem dX7_passAll_21 : decode cX7_passAll 21 = .ok (.putfield 127, 3) := by decide +kernel
theorem dX7_passAll_24 : decode cX7_passAll 24 = .ok (.aload_n 0, 1) := by decide +kernel
theorem dX7_passAll_25 : decode cX7_passAll 25 = .ok (.aload_n 0, 1) := by decide +kernel
theorem dX7_passAll_26 : decode cX7_passAll 26 = .ok (.aload_n 0, 1) := by decide +kernel
theorem dX7_passAll_27 : decode cX7_passAll 27 = .ok (.getfield 136, 3) := by decide +kernel
theorem dX7_passAll_30 : decode cX7_passAll 30 = .ok (.invokevirtual 298, 3) := by decide +kernel
theorem dX7_passAll_33 : decode cX7_passAll 33 = .ok (.putfield 136, 3) := by decide +kernel
theorem dX7_passAll_36 : decode cX7_passAll 36 = .ok (.aload_n 0, 1) := by decide +kernel
theorem dX7_passAll_37 : decode cX7_passAll 37 = .ok (.aload_n 0, 1) := by decide +kernel
theorem dX7_passAll_38 : decode cX7_passAll 38 = .ok (.aload_n 0, 1) := by decide +kernel
theorem dX7_passAll_39 : decode cX7_passAll 39 = .ok (.getfield 130, 3) := by decide +kernel
theorem dX7_passAll_42 : decode cX7_passAll 42 = .ok (.invokevirtual 298, 3) := by decide +kernel
theorem dX7_passAll_45 : decode cX7_passAll 45 = .ok (.putfield 130, 3) := by decide +kernel
theorem dX7_passAll_48 : decode cX7_passAll 48 = .ok (.aload_n 0, 1) := by decide +kernel
theorem dX7_passAll_49 : decode cX7_passAll 49 = .ok (.aload_n 0, 1) := by decide +kernel
theorem dX7_passAll_50 : decode cX7_passAll 50 = .ok (.aload_n 0, 1) := by decide +kernel
theorem dX7_passAll_51 : decode cX7_passAll 51 = .ok (.getfield 244, 3) := by decide +kernel
theorem dX7_passAll_54 : decode cX7_passAll 54 = .ok (.invokevirtual 298, 3) := by decide +kernel
theorem dX7_passAll_57 : decode cX7_passAll 57 = .ok (.putfield 244, 3) := by decide +kernel
theorem dX7_passAll_60 : decode cX7_passAll 60 = .ok (.aload_n 0, 1) := by decide +kernel
theorem dX7_passAll_61 : decode cX7_passAll 61 = .ok (.aload_n 0, 1) := by decide +kernel
theorem dX7_passAll_62 : decode cX7_passAll 62 = .ok (.getfield 7, 3) := by decide +kernel
theorem dX7_passAll_65 : decode cX7_passAll 65 = .ok (.bipush 121, 2) := by decide +kernel
theorem dX7_passAll_67 : decode cX7_passAll 67 = .ok (.invokevirtual 301, 3) := by decide +kernel
theorem dX7_passAll_70 : decode cX7_passAll 70 = .ok (.aload_n 0, 1) := by decide +kernel
theorem dX7_passAll_71 : decode cX7_passAll 71 = .ok (.aload_n 0, 1) := by decide +kernel
theorem dX7_passAll_72 : decode cX7_passAll 72 = .ok (.getfield 13, 3) := by decide +kernel
theorem dX7_passAll_75 : decode cX7_passAll 75 = .ok (.bipush 10, 2) := by decide +kernel
theorem dX7_passAll_77 : decode cX7_passAll 77 = .ok (.invokevirtual 301, 3) := by decide +kernel
theorem dX7_passAll_80 : decode cX7_passAll 80 = .ok (.aload_n 0, 1) := by decide +kernel
theorem dX7_passAll_81 : decode cX7_passAll 81 = .ok (.aload_n 0, 1) := by decide +kernel
theorem dX7_passAll_82 : decode cX7_passAll 82 = .ok (.getfield 16, 3) := by decide +kernel
theorem dX7_passAll_85 : decode cX7_passAll 85 = .ok (.bipush 10, 2) := by decide +kernel
theorem dX7_passAll_87 : decode cX7_passAll 87 = .ok (.invokevirtual 301, 3) := by decide +kernel
theorem dX7_passAll_90 : decode cX7_passAll 90 = .ok (.aload_n 0, 1) := by decide +kernel
theorem dX7_passAll_91 : decode cX7_passAll 91 = .ok (.aload_n 0, 1) := by decide +kernel
theorem dX7_passAll_92 : decode cX7_passAll 92 = .ok (.getfield 19, 3) := by decide +kernel
theorem dX7_passAll_95 : decode cX7_passAll 95 = .ok (.bipush 10, 2) := by decide +kernel
theorem dX7_passAll_97 : decode cX7_passAll 97 = .ok (.invokevirtual 301, 3) := by decide +kernel
theorem dX7_passAll_100 : decode cX7_passAll 100 = .ok (.aload_n 0, 1) := by decide +kernel
theorem dX7_passAll_101 : decode cX7_passAll 101 = .ok (.aload_n 0, 1) := by decide +kernel
theorem dX7_passAll_102 : decode cX7_passAll 102 = .ok (.getfield 22, 3) := by decide +kernel
theorem dX7_passAll_105 : decode cX7_passAll 105 = .ok (.bipush 10, 2) := by decide +kernel
theorem dX7_passAll_107 : decode cX7_passAll 107 = .ok (.invokevirtual 301, 3) := by decide +kernel
theorem dX7_passAll_110 : decode cX7_passAll 110 = .ok (.aload_n 0, 1) := by decide +kernel
theorem dX7_passAll_111 : decode cX7_passAll 111 = .ok (.aload_n 0, 1) := by decide +kernel
theorem dX7_passAll_112 : decode cX7_passAll 112 = .ok (.getfield 25, 3) := by decide +kernel
theorem dX7_passAll_115 : decode cX7_passAll 115 = .ok (.bipush 8, 2) := by decide +kernel
theorem dX7_passAll_117 : decode cX7_passAll 117 = .ok (.invokevirtual 301, 3) := by decide +kernel
theorem dX7_passAll_120 : decode cX7_passAll 120 = .ok (.aload_n 0, 1) := by decide +kernel
theorem dX7_passAll_121 : decode cX7_passAll 121 = .ok (.aload_n 0, 1) := by decide +kernel
theorem dX7_passAll_122 : decode cX7_passAll 122 = .ok (.getfield 28, 3) := by decide +kernel
theorem dX7_passAll_125 : decode cX7_passAll 125 = .ok (.bipush 8, 2) := by decide +kernel
theorem dX7_passAll_127 : decode cX7_passAll 127 = .ok (.invokevirtual 301, 3) := by decide +kernel
theorem dX7_passAll_130 : decode cX7_passAll 130 = .ok (.return_, 1) := by decide +kernel
set_option maxRecDepth 20000 in
theorem ggX7_image_X7_in : GoodIn wsX7_image wsX7_in := goodIn_r _ [7] (by decide +kernel) (by decide +kernel)
set_option maxRecDepth 20000 in
theorem gX7_image_X7_in : GoodIn wsX7_image (va_wsS RX7 78 yX7_in wsX7_in) := goodIn_app (goodIn_of _ (by decide +kernel)) ggX7_image_X7_in
set_option maxRecDepth 20000 in
theorem ggX7_image_X7_passAll : GoodIn wsX7_image wsX7_passAll := goodIn_r _ [11, 12, 13, 14, 15, 16, 17, 18, 19, 20, 21, 22, 23, 24, 25, 26, 6, 27, 2, 28, 1, 29, 30, 31, 32, 33, 34, 35, 36, 37, 38, 39, 40, 41, 42, 43, 44, 45, 46, 47, 48, 49, 50, 51, 52, 53, 54, 55, 56, 57, 58, 59, 60, 61, 62, 63, 64, 65, 66] (by decide +kernel) (by decide +kernel)
set_option maxRecDepth 20000 in
theorem gX7_image_X7_passAll : GoodIn wsX7_image (wsV RX7 305 RX7 yX7_passAll wsX7_passAll) := goodIn_app (goodIn_of _ (by decide +kernel)) ggX7_image_X7_passAll
theorem dX7_image_0 : decode cX7_image 0 = .ok (.iload_n 1, 1) := by decide +kernel
theorem dX7_image_1 : decode cX7_image 1 = .ok (.i2l, 1) := by decide +kernel
theorem dX7_image_2 : decode cX7_image 2 = .ok (.lconst 0, 1) := by decide +kernel
theorem dX7_image_3 : decode cX7_image 3 = .ok (.lconst 1, 1) := by decide +kernel
theorem dX7_image_4 : decode cX7_image 4 = .ok (.invokestatic 78, 3) := by decide +kernel
theorem dX7_image_7 : decode cX7_image 7 = .ok (.ifCond .ne 6, 3) := by decide +kernel
theorem dX7_image_10 : decode cX7_image 10 = .ok (.bipush (-2), 2) := by decide +kernel
theorem dX7_image_12 : decode cX7_image 12 = .ok (.ireturn, 1) := by decide +kernel
theorem dX7_image_13 : decode cX7_image 13 = .ok (.aload_n 0, 1) := by decide +kernel
theorem dX7_image_14 : decode cX7_image 14 = .ok (.sipush 200, 3) := by decide +kernel
theorem dX7_image_17 : decode cX7_image 17 = .ok (.iload_n 1, 1) := by decide +kernel
theorem dX7_image_18 : decode cX7_image 18 = .ok (.imul, 1) := by decide +kernel
theorem dX7_image_19 : decode cX7_image 19 = .ok (.putfield 295, 3) := by decide +kernel
theorem dX7_image_22 : decode cX7_image 22 = .ok (.aload_n 0, 1) := by decide +kernel
theorem dX7_image_23 : decode cX7_image 23 = .ok (.iconst 1, 1) := by decide +kernel
theorem dX7_image_24 : decode cX7_image 24 = .ok (.putfield 291, 3) := by decide +kernel
theorem dX7_image_27 : decode cX7_image 27 = .ok (.aload_n 0, 1) := by decide +kernel
theorem dX7_image_28 : decode cX7_image 28 = .ok (.invokevirtual 305, 3) := by decide +kernel
theorem dX7_image_31 : decode cX7_image 31 = .ok (.aload_n 0, 1) := by decide +kernel
theorem dX7_image_32 : decode cX7_image 32 = .ok (.getfield 69, 3) := by decide +kernel
theorem dX7_image_35 : decode cX7_image 35 = .ok (.iload_n 1, 1) := by decide +kernel
theorem dX7_image_36 : decode cX7_image 36 = .ok (.iconst 1, 1) := by decide +kernel
theorem dX7_image_37 : decode cX7_image 37 = .ok (.bastore, 1) := by decide +kernel
theorem dX7_image_38 : decode cX7_image 38 = .ok (.iconst 1, 1) := by decide +kernel
theorem dX7_image_39 : decode cX7_image 39 = .ok (.ireturn, 1) := by decide +kernel
set_option maxRecDepth 20000 in
theorem ggX7_restore_X7_in : GoodIn wsX7_restore wsX7_in := goodIn_r _ [7] (by decide +kernel) (by decide +kernel)
set_option maxRecDepth 20000 in
theorem gX7_restore_X7_in : GoodIn wsX7_restore (va_wsS RX7 78 yX7_in wsX7_in) := goodIn_app (goodIn_of _ (by decide +kernel)) ggX7_restore_X7_in
set_option maxRecDepth 20000 in
theorem ggX7_restore_X7_passAll : GoodIn wsX7_restore wsX7_passAll := goodIn_r _ [11, 12, 13, 14, 15, 16, 17, 18, 19, 20, 21, 22, 23, 24, 25, 26, 6, 27, 3, 28, 2, 29, 30, 31, 32, 33, 34, 35, 36, 37, 38, 39, 40, 41, 42, 43, 44, 45, 46, 47, 48, 49, 50, 51, 52, 53, 54, 55, 56, 57, 58, 59, 60, 61, 62, 63, 64, 65, 66] (by decide +kernel) (by decide +kernel)
set_option maxRecDepth 20000 in
theorem gX7_restore_X7_passAll : GoodIn wsX7_restore (wsV RX7 305 RX7 yX7_passAll wsX7_passAll) := goodIn_app (goodIn_of _ (by decide +kernel)) ggX7_restore_X7_passAll
theorem dX7_restore_0 : decode cX7_restore 0 = .ok (.iload_n 1, 1) := by decide +kernel
theorem dX7_restore_1 : decode cX7_restore 1 = .ok (.i2l, 1) := by decide +kernel
theorem dX7_restore_2 : decode cX7_restore 2 = .ok (.lconst 0, 1) := by decide +kernel
theorem dX7_restore_3 : decode cX7_restore 3 = .ok (.lconst 1, 1) := by decide +kernel
theorem dX7_restore_4 : decode cX7_restore 4 = .ok (.invokestatic 78, 3) := by decide +kernel
theorem dX7_restore_7 : decode cX7_restore 7 = .ok (.ifCond .ne 6, 3) := by decide +kernel
theorem dX7_restore_10 : decode cX7_restore 10 = .ok (.bipush (-2), 2) := by decide +kernel
theorem dX7_restore_12 : decode cX7_restore 12 = .ok (.ireturn, 1) := by decide +kernel
theorem dX7_restore_13 : decode cX7_restore 13 = .ok (.aload_n 0, 1) := by decide +kernel
theorem dX7_restore_14 : decode cX7_restore 14 = .ok (.getfield 69, 3) := by decide +kernel
theorem dX7_restore_17 : decode cX7_restore 17 = .ok (.iload_n 1, 1) := by decide +kernel
theorem dX7_restore_18 : decode cX7_restore 18 = .ok (.baload, 1) := by decide +kernel
theorem dX7_restore_19 : decode cX7_restore 19 = .ok (.ifCond .ne 6, 3) := by decide +kernel
theorem dX7_restore_22 : decode cX7_restore 22 = .ok (.bipush (-3), 2) := by decide +kernel
theorem dX7_restore_24 : decode cX7_restore 24 = .ok (.ireturn, 1) := by decide +kernel
theorem dX7_restore_25 : decode cX7_restore 25 = .ok (.aload_n 0, 1) := by decide +kernel
theorem dX7_restore_26 : decode cX7_restore 26 = .ok (.sipush 200, 3) := by decide +kernel
theorem dX7_restore_29 : decode cX7_restore 29 = .ok (.iload_n 1, 1) := by decide +kernel
theorem dX7_restore_30 : decode cX7_restore 30 = .ok (.imul, 1) := by decide +kernel
theorem dX7_restore_31 : decode cX7_restore 31 = .ok (.putfield 295, 3) := by decide +kernel
theorem dX7_restore_34 : decode cX7_restore 34 = .ok (.aload_n 0, 1) := by decide +kernel
theorem dX7_restore_35 : decode cX7_restore 35 = .ok (.iconst 0, 1) := by decide +kernel
theorem dX7_restore_36 : decode cX7_restore 36 = .ok (.putfield 291, 3) := by decide +kernel
theorem dX7_restore_39 : decode cX7_restore 39 = .ok (.aload_n 0, 1) := by decide +kernel
theorem dX7_restore_40 : decode cX7_restore 40 = .ok (.invokevirtual 305, 3) := by decide +kernel
theorem dX7_restore_43 : decode cX7_restore 43 = .ok (.iconst 1, 1) := by decide +kernel
theorem dX7_restore_44 : decode cX7_restore 44 = .ok (.ireturn, 1) := by decide +kernel
set_option maxRecDepth 20000 in
theorem ggX7_told_X7_in : GoodIn wsX7_told wsX7_in := goodIn_r _ [18] (by decide +kernel) (by decide +kernel)
set_option maxRecDepth 20000 in
theorem gX7_told_X7_in : GoodIn wsX7_told (va_wsS RX7 78 yX7_in wsX7_in) := goodIn_app (goodIn_of _ (by decide +kernel)) ggX7_told_X7_in
set_option maxRecDepth 20000 in
theorem ggX7_told_X7_isPlace : GoodIn wsX7_told wsX7_isPlace := goodIn_r _ [21, 6, 15, 16, 17, 18] (by decide +kernel) (by decide +kernel)
set_option maxRecDepth 20000 in
theorem gX7_told_X7_isPlace : GoodIn wsX7_told (va_wsS RX7 84 yX7_isPlace wsX7_isPlace) := goodIn_app (goodIn_of _ (by decide +kernel)) ggX7_told_X7_isPlace
set_option maxRecDepth 20000 in
theorem ggX7_told_X7_ofHouse : GoodIn wsX7_told wsX7_ofHouse := goodIn_r _ [25, 26, 27, 28, 29, 30, 31, 32, 33, 34, 35, 36, 37, 38, 39, 40, 41, 42, 43, 44, 45, 46, 47, 48, 49, 50, 51, 52, 53, 54, 55, 56, 57, 58, 59, 60, 61, 62] (by decide +kernel) (by decide +kernel)
set_option maxRecDepth 20000 in
theorem gX7_told_X7_ofHouse : GoodIn wsX7_told (wsV RX7 199 RX7 yX7_ofHouse wsX7_ofHouse) := goodIn_app (goodIn_of _ (by decide +kernel)) ggX7_told_X7_ofHouse
theorem dX7_told_0 : decode cX7_told 0 = .ok (.iload_n 1, 1) := by decide +kernel
theorem dX7_told_1 : decode cX7_told 1 = .ok (.i2l, 1) := by decide +kernel
theorem dX7_told_2 : decode cX7_told 2 = .ok (.ldc2_w 308, 3) := by decide +kernel
theorem dX7_told_5 : decode cX7_told 5 = .ok (.ldc2_w 310, 3) := by decide +kernel
theorem dX7_told_8 : decode cX7_told 8 = .ok (.invokestatic 78, 3) := by decide +kernel
theorem dX7_told_11 : decode cX7_told 11 = .ok (.ifCond .eq 45, 3) := by decide +kernel
theorem dX7_told_14 : decode cX7_told 14 = .ok (.iload_n 1, 1) := by decide +kernel
theorem dX7_told_15 : decode cX7_told 15 = .ok (.sipush 1000, 3) := by decide +kernel
theorem dX7_told_18 : decode cX7_told 18 = .ok (.isub, 1) := by decide +kernel
theorem dX7_told_19 : decode cX7_told 19 = .ok (.bipush 20, 2) := by decide +kernel
theorem dX7_told_21 : decode cX7_told 21 = .ok (.idiv, 1) := by decide +kernel
theorem dX7_told_22 : decode cX7_told 22 = .ok (.istore_n 2, 1) := by decide +kernel
theorem dX7_told_23 : decode cX7_told 23 = .ok (.iload_n 1, 1) := by decide +kernel
theorem dX7_told_24 : decode cX7_told 24 = .ok (.sipush 1000, 3) := by decide +kernel
theorem dX7_told_27 : decode cX7_told 27 = .ok (.isub, 1) := by decide +kernel
theorem dX7_told_28 : decode cX7_told 28 = .ok (.bipush 20, 2) := by decide +kernel
theorem dX7_told_30 : decode cX7_told 30 = .ok (.irem, 1) := by decide +kernel
theorem dX7_told_31 : decode cX7_told 31 = .ok (.istore_n 3, 1) := by decide +kernel
theorem dX7_told_32 : decode cX7_told 32 = .ok (.iload_n 3, 1) := by decide +kernel
theorem dX7_told_33 : decode cX7_told 33 = .ok (.invokestatic 84, 3) := by decide +kernel
theorem dX7_told_36 : decode cX7_told 36 = .ok (.ifCond .eq 17, 3) := by decide +kernel
theorem dX7_told_39 : decode cX7_told 39 = .ok (.aload_n 0, 1) := by decide +kernel
theorem dX7_told_40 : decode cX7_told 40 = .ok (.getfield 7, 3) := by decide +kernel
theorem dX7_told_43 : decode cX7_told 43 = .ok (.bipush 11, 2) := by decide +kernel
theorem dX7_told_45 : decode cX7_told 45 = .ok (.iload_n 2, 1) := by decide +kernel
theorem dX7_told_46 : decode cX7_told 46 = .ok (.imul, 1) := by decide +kernel
theorem dX7_told_47 : decode cX7_told 47 = .ok (.iload_n 3, 1) := by decide +kernel
theorem dX7_told_48 : decode cX7_told 48 = .ok (.iadd, 1) := by decide +kernel
theorem dX7_told_49 : decode cX7_told 49 = .ok (.iaload, 1) := by decide +kernel
theorem dX7_told_50 : decode cX7_told 50 = .ok (.goto 5, 3) := by decide +kernel
theorem dX7_told_53 : decode cX7_told 53 = .ok (.bipush (-2), 2) := by decide +kernel
theorem dX7_told_55 : decode cX7_told 55 = .ok (.ireturn, 1) := by decide +kernel
theorem dX7_told_56 : decode cX7_told 56 = .ok (.iload_n 1, 1) := by decide +kernel
theorem dX7_told_57 : decode cX7_told 57 = .ok (.i2l, 1) := by decide +kernel
theorem dX7_told_58 : decode cX7_told 58 = .ok (.ldc2_w 312, 3) := by decide +kernel
theorem dX7_told_61 : decode cX7_told 61 = .ok (.ldc2_w 314, 3) := by decide +kernel
theorem dX7_told_64 : decode cX7_told 64 = .ok (.invokestatic 78, 3) := by decide +kernel
theorem dX7_told_67 : decode cX7_told 67 = .ok (.ifCond .eq 32, 3) := by decide +kernel
theorem dX7_told_70 : decode cX7_told 70 = .ok (.iload_n 1, 1) := by decide +kernel
theorem dX7_told_71 : decode cX7_told 71 = .ok (.bipush 10, 2) := by decide +kernel
theorem dX7_told_73 : decode cX7_told 73 = .ok (.irem, 1) := by decide +kernel
theorem dX7_told_74 : decode cX7_told 74 = .ok (.iconst 3, 1) := by decide +kernel
theorem dX7_told_75 : decode cX7_told 75 = .ok (.if_icmp .ge 21, 3) := by decide +kernel
theorem dX7_told_78 : decode cX7_told 78 = .ok (.aload_n 0, 1) := by decide +kernel
theorem dX7_told_79 : decode cX7_told 79 = .ok (.iload_n 1, 1) := by decide +kernel
theorem dX7_told_80 : decode cX7_told 80 = .ok (.bipush 100, 2) := by decide +kernel
theorem dX7_told_82 : decode cX7_told 82 = .ok (.isub, 1) := by decide +kernel
theorem dX7_told_83 : decode cX7_told 83 = .ok (.bipush 10, 2) := by decide +kernel
theorem dX7_told_85 : decode cX7_told 85 = .ok (.idiv, 1) := by decide +kernel
theorem dX7_told_86 : decode cX7_told 86 = .ok (.iload_n 1, 1) := by decide +kernel
theorem dX7_told_87 : decode cX7_told 87 = .ok (.bipush 10, 2) := by decide +kernel
theorem dX7_told_89 : decode cX7_told 89 = .ok (.irem, 1) := by decide +kernel
theorem dX7_told_90 : decode cX7_told 90 = .ok (.invokevirtual 199, 3) := by decide +kernel
theorem dX7_told_93 : decode cX7_told 93 = .ok (.goto 5, 3) := by decide +kernel
theorem dX7_told_96 : decode cX7_told 96 = .ok (.bipush (-2), 2) := by decide +kernel
theorem dX7_told_98 : decode cX7_told 98 = .ok (.ireturn, 1) := by decide +kernel
theorem dX7_told_99 : decode cX7_told 99 = .ok (.iload_n 1, 1) := by decide +kernel
theorem dX7_told_100 : decode cX7_told 100 = .ok (.i2l, 1) := by decide +kernel
theorem dX7_told_101 : decode cX7_told 101 = .ok (.ldc2_w 82, 3) := by decide +kernel
theorem dX7_told_104 : decode cX7_told 104 = .ok (.ldc2_w 316, 3) := by decide +kernel
theorem dX7_told_107 : decode cX7_told 107 = .ok (.invokestatic 78, 3) := by decide +kernel
theorem dX7_told_110 : decode cX7_told 110 = .ok (.ifCond .eq 13, 3) := by decide +kernel
theorem dX7_told_113 : decode cX7_told 113 = .ok (.aload_n 0, 1) := by decide +kernel
theorem dX7_told_114 : decode cX7_told 114 = .ok (.getfield 22, 3) := by decide +kernel
theorem dX7_told_117 : decode cX7_told 117 = .ok (.iload_n 1, 1) := by decide +kernel
theorem dX7_told_118 : decode cX7_told 118 = .ok (.bipush 10, 2) := by decide +kernel
theorem dX7_told_120 : decode cX7_told 120 = .ok (.isub, 1) := by decide +kernel
theorem dX7_told_121 : decode cX7_told 121 = .ok (.iaload, 1) := by decide +kernel
theorem dX7_told_122 : decode cX7_told 122 = .ok (.ireturn, 1) := by decide +kernel
theorem dX7_told_123 : decode cX7_told 123 = .ok (.iload_n 1, 1) := by decide +kernel
theorem dX7_told_124 : decode cX7_told 124 = .ok (.tableswitch 70 0 5 #[40, 45, 50, 55, 60, 65], 40) := by decide +kernel
theorem dX7_told_164 : decode cX7_told 164 = .ok (.aload_n 0, 1) := by decide +kernel
theorem dX7_told_165 : decode cX7_told 165 = .ok (.getfield 100, 3) := by decide +kernel
theorem dX7_told_168 : decode cX7_told 168 = .ok (.ireturn, 1) := by decide +kernel
theorem dX7_told_169 : decode cX7_told 169 = .ok (.aload_n 0, 1) := by decide +kernel
theorem dX7_told_170 : decode cX7_told 170 = .ok (.getfield 72, 3) := by decide +kernel
theorem dX7_told_173 : decode cX7_told 173 = .ok (.ireturn, 1) := by decide +kernel
theorem dX7_told_174 : decode cX7_told 174 = .ok (.aload_n 0, 1) := by decide +kernel
theorem dX7_told_175 : decode cX7_told 175 = .ok (.getfield 127, 3) := by decide +kernel
theorem dX7_told_178 : decode cX7_told 178 = .ok (.ireturn, 1) := by decide +kernel
theorem dX7_told_179 : decode cX7_told 179 = .ok (.aload_n 0, 1) := by decide +kernel
theorem dX7_told_180 : decode cX7_told 180 = .ok (.getfield 136, 3) := by decide +kernel
theorem dX7_told_183 : decode cX7_told 183 = .ok (.ireturn, 1) := by decide +kernel
theorem dX7_told_184 : decode cX7_told 184 = .ok (.aload_n 0, 1) := by decide +kernel
theorem dX7_told_185 : decode cX7_told 185 = .ok (.getfield 130, 3) := by decide +kernel
theorem dX7_told_188 : decode cX7_told 188 = .ok (.ireturn, 1) := by decide +kernel
theorem dX7_told_189 : decode cX7_told 189 = .ok (.aload_n 0, 1) := by decide +kernel
theorem dX7_told_190 : decode cX7_told 190 = .ok (.getfield 244, 3) := by decide +kernel
theorem dX7_told_193 : decode cX7_told 193 = .ok (.ireturn, 1) := by decide +kernel
theorem dX7_told_194 : decode cX7_told 194 = .ok (.bipush (-2), 2) := by decide +kernel
theorem dX7_told_196 : decode cX7_told 196 = .ok (.ireturn, 1) := by decide +kernel
theorem dJ6_bitCount_0f7a4_0 : decode cJ6_bitCount_0f7a4 0 = .ok (.iload_n 0, 1) := by decide +kernel
theorem dJ6_bitCount_0f7a4_1 : decode cJ6_bitCount_0f7a4 1 = .ok (.iload_n 0, 1) := by decide +kernel
theorem dJ6_bitCount_0f7a4_2 : decode cJ6_bitCount_0f7a4 2 = .ok (.iconst 1, 1) := by decide +kernel
theorem dJ6_bitCount_0f7a4_3 : decode cJ6_bitCount_0f7a4 3 = .ok (.iushr, 1) := by decide +kernel
theorem dJ6_bitCount_0f7a4_4 : decode cJ6_bitCount_0f7a4 4 = .ok (.ldc_w 265, 3) := by decide +kernel
theorem dJ6_bitCount_0f7a4_7 : decode cJ6_bitCount_0f7a4 7 = .ok (.iand, 1) := by decide +kernel
theorem dJ6_bitCount_0f7a4_8 : decode cJ6_bitCount_0f7a4 8 = .ok (.isub, 1) := by decide +kernel
theorem dJ6_bitCount_0f7a4_9 : decode cJ6_bitCount_0f7a4 9 = .ok (.istore_n 0, 1) := by decide +kernel
theorem dJ6_bitCount_0f7a4_10 : decode cJ6_bitCount_0f7a4 10 = .ok (.iload_n 0, 1) := by decide +kernel
theorem dJ6_bitCount_0f7a4_11 : decode cJ6_bitCount_0f7a4 11 = .ok (.ldc_w 266, 3) := by decide +kernel
theorem dJ6_bitCount_0f7a4_14 : decode cJ6_bitCount_0f7a4 14 = .ok (.iand, 1) := by decide +kernel
theorem dJ6_bitCount_0f7a4_15 : decode cJ6_bitCount_0f7a4 15 = .ok (.iload_n 0, 1) := by decide +kernel
theorem dJ6_bitCount_0f7a4_16 : decode cJ6_bitCount_0f7a4 16 = .ok (.iconst 2, 1) := by decide +kernel
theorem dJ6_bitCount_0f7a4_17 : decode cJ6_bitCount_0f7a4 17 = .ok (.iushr, 1) := by decide +kernel
theorem dJ6_bitCount_0f7a4_18 : decode cJ6_bitCount_0f7a4 18 = .ok (.ldc_w 266, 3) := by decide +kernel
theorem dJ6_bitCount_0f7a4_21 : decode cJ6_bitCount_0f7a4 21 = .ok (.iand, 1) := by decide +kernel
theorem dJ6_bitCount_0f7a4_22 : decode cJ6_bitCount_0f7a4 22 = .ok (.iadd, 1) := by decide +kernel
theorem dJ6_bitCount_0f7a4_23 : decode cJ6_bitCount_0f7a4 23 = .ok (.istore_n 0, 1) := by decide +kernel
theorem dJ6_bitCount_0f7a4_24 : decode cJ6_bitCount_0f7a4 24 = .ok (.iload_n 0, 1) := by decide +kernel
theorem dJ6_bitCount_0f7a4_25 : decode cJ6_bitCount_0f7a4 25 = .ok (.iload_n 0, 1) := by decide +kernel
theorem dJ6_bitCount_0f7a4_26 : decode cJ6_bitCount_0f7a4 26 = .ok (.iconst 4, 1) := by decide +kernel
theorem dJ6_bitCount_0f7a4_27 : decode cJ6_bitCount_0f7a4 27 = .ok (.iushr, 1) := by decide +kernel
theorem dJ6_bitCount_0f7a4_28 : decode cJ6_bitCount_0f7a4 28 = .ok (.iadd, 1) := by decide +kernel
theorem dJ6_bitCount_0f7a4_29 : decode cJ6_bitCount_0f7a4 29 = .ok (.ldc_w 267, 3) := by decide +kernel
theorem dJ6_bitCount_0f7a4_32 : decode cJ6_bitCount_0f7a4 32 = .ok (.iand, 1) := by decide +kernel
theorem dJ6_bitCount_0f7a4_33 : decode cJ6_bitCount_0f7a4 33 = .ok (.istore_n 0, 1) := by decide +kernel
theorem dJ6_bitCount_0f7a4_34 : decode cJ6_bitCount_0f7a4 34 = .ok (.iload_n 0, 1) := by decide +kernel
theorem dJ6_bitCount_0f7a4_35 : decode cJ6_bitCount_0f7a4 35 = .ok (.iload_n 0, 1) := by decide +kernel
theorem dJ6_bitCount_0f7a4_36 : decode cJ6_bitCount_0f7a4 36 = .ok (.bipush 8, 2) := by decide +kernel
theorem dJ6_bitCount_0f7a4_38 : decode cJ6_bitCount_0f7a4 38 = .ok (.iushr, 1) := by decide +kernel
theorem dJ6_bitCount_0f7a4_39 : decode cJ6_bitCount_0f7a4 39 = .ok (.iadd, 1) := by decide +kernel
theorem dJ6_bitCount_0f7a4_40 : decode cJ6_bitCount_0f7a4 40 = .ok (.istore_n 0, 1) := by decide +kernel
theorem dJ6_bitCount_0f7a4_41 : decode cJ6_bitCount_0f7a4 41 = .ok (.iload_n 0, 1) := by decide +kernel
theorem dJ6_bitCount_0f7a4_42 : decode cJ6_bitCount_0f7a4 42 = .ok (.iload_n 0, 1) := by decide +kernel
theorem dJ6_bitCount_0f7a4_43 : decode cJ6_bitCount_0f7a4 43 = .ok (.bipush 16, 2) := by decide +kernel
theorem dJ6_bitCount_0f7a4_45 : decode cJ6_bitCount_0f7a4 45 = .ok (.iushr, 1) := by decide +kernel
theorem dJ6_bitCount_0f7a4_46 : decode cJ6_bitCount_0f7a4 46 = .ok (.iadd, 1) := by decide +kernel
theorem dJ6_bitCount_0f7a4_47 : decode cJ6_bitCount_0f7a4 47 = .ok (.istore_n 0, 1) := by decide +kernel
theorem dJ6_bitCount_0f7a4_48 : decode cJ6_bitCount_0f7a4 48 = .ok (.iload_n 0, 1) := by decide +kernel
theorem dJ6_bitCount_0f7a4_49 : decode cJ6_bitCount_0f7a4 49 = .ok (.bipush 63, 2) := by decide +kernel
theorem dJ6_bitCount_0f7a4_51 : decode cJ6_bitCount_0f7a4 51 = .ok (.iand, 1) := by decide +kernel
theorem dJ6_bitCount_0f7a4_52 : decode cJ6_bitCount_0f7a4 52 = .ok (.ireturn, 1) := by decide +kernel
theorem dJ9_max_7cf53_0 : decode cJ9_max_7cf53 0 = .ok (.iload_n 0, 1) := by decide +kernel
theorem dJ9_max_7cf53_1 : decode cJ9_max_7cf53 1 = .ok (.iload_n 1, 1) := by decide +kernel
theorem dJ9_max_7cf53_2 : decode cJ9_max_7cf53 2 = .ok (.if_icmp .lt 7, 3) := by decide +kernel
theorem dJ9_max_7cf53_5 : decode cJ9_max_7cf53 5 = .ok (.iload_n 0, 1) := by decide +kernel
theorem dJ9_max_7cf53_6 : decode cJ9_max_7cf53 6 = .ok (.goto 4, 3) := by decide +kernel
theorem dJ9_max_7cf53_9 : decode cJ9_max_7cf53 9 = .ok (.iload_n 1, 1) := by decide +kernel
theorem dJ9_max_7cf53_10 : decode cJ9_max_7cf53 10 = .ok (.ireturn, 1) := by decide +kernel
theorem dJ9_min_7cf53_0 : decode cJ9_min_7cf53 0 = .ok (.iload_n 0, 1) := by decide +kernel
theorem dJ9_min_7cf53_1 : decode cJ9_min_7cf53 1 = .ok (.iload_n 1, 1) := by decide +kernel
theorem dJ9_min_7cf53_2 : decode cJ9_min_7cf53 2 = .ok (.if_icmp .gt 7, 3) := by decide +kernel
theorem dJ9_min_7cf53_5 : decode cJ9_min_7cf53 5 = .ok (.iload_n 0, 1) := by decide +kernel
theorem dJ9_min_7cf53_6 : decode cJ9_min_7cf53 6 = .ok (.goto 4, 3) := by decide +kernel
theorem dJ9_min_7cf53_9 : decode cJ9_min_7cf53 9 = .ok (.iload_n 1, 1) := by decide +kernel
theorem dJ9_min_7cf53_10 : decode cJ9_min_7cf53 10 = .ok (.ireturn, 1) := by decide +kernel
theorem dJ7_fill_d0a16_0 : decode cJ7_fill_d0a16 0 = .ok (.iconst 0, 1) := by decide +kernel
theorem dJ7_fill_d0a16_1 : decode cJ7_fill_d0a16 1 = .ok (.istore_n 3, 1) := by decide +kernel
theorem dJ7_fill_d0a16_2 : decode cJ7_fill_d0a16 2 = .ok (.aload_n 0, 1) := by decide +kernel
theorem dJ7_fill_d0a16_3 : decode cJ7_fill_d0a16 3 = .ok (.arraylength, 1) := by decide +kernel
theorem dJ7_fill_d0a16_4 : decode cJ7_fill_d0a16 4 = .ok (.istore 4, 2) := by decide +kernel
theorem dJ7_fill_d0a16_6 : decode cJ7_fill_d0a16 6 = .ok (.iload_n 3, 1) := by decide +kernel
theorem dJ7_fill_d0a16_7 : decode cJ7_fill_d0a16 7 = .ok (.iload 4, 2) := by decide +kernel
theorem dJ7_fill_d0a16_9 : decode cJ7_fill_d0a16 9 = .ok (.if_icmp .ge 13, 3) := by decide +kernel
theorem dJ7_fill_d0a16_12 : decode cJ7_fill_d0a16 12 = .ok (.aload_n 0, 1) := by decide +kernel
theorem dJ7_fill_d0a16_13 : decode cJ7_fill_d0a16 13 = .ok (.iload_n 3, 1) := by decide +kernel
theorem dJ7_fill_d0a16_14 : decode cJ7_fill_d0a16 14 = .ok (.lload_n 1, 1) := by decide +kernel
theorem dJ7_fill_d0a16_15 : decode cJ7_fill_d0a16 15 = .ok (.lastore, 1) := by decide +kernel
theorem dJ7_fill_d0a16_16 : decode cJ7_fill_d0a16 16 = .ok (.iinc 3 1, 3) := by decide +kernel
theorem dJ7_fill_d0a16_19 : decode cJ7_fill_d0a16 19 = .ok (.goto (-13), 3) := by decide +kernel
theorem dJ7_fill_d0a16_22 : decode cJ7_fill_d0a16 22 = .ok (.return_, 1) := by decide +kernel
theorem dJ7_fill_53178_0 : decode cJ7_fill_53178 0 = .ok (.iconst 0, 1) := by decide +kernel
theorem dJ7_fill_53178_1 : decode cJ7_fill_53178 1 = .ok (.istore_n 2, 1) := by decide +kernel
theorem dJ7_fill_53178_2 : decode cJ7_fill_53178 2 = .ok (.aload_n 0, 1) := by decide +kernel
theorem dJ7_fill_53178_3 : decode cJ7_fill_53178 3 = .ok (.arraylength, 1) := by decide +kernel
theorem dJ7_fill_53178_4 : decode cJ7_fill_53178 4 = .ok (.istore_n 3, 1) := by decide +kernel
theorem dJ7_fill_53178_5 : decode cJ7_fill_53178 5 = .ok (.iload_n 2, 1) := by decide +kernel
theorem dJ7_fill_53178_6 : decode cJ7_fill_53178 6 = .ok (.iload_n 3, 1) := by decide +kernel
theorem dJ7_fill_53178_7 : decode cJ7_fill_53178 7 = .ok (.if_icmp .ge 13, 3) := by decide +kernel
theorem dJ7_fill_53178_10 : decode cJ7_fill_53178 10 = .ok (.aload_n 0, 1) := by decide +kernel
theorem dJ7_fill_53178_11 : decode cJ7_fill_53178 11 = .ok (.iload_n 2, 1) := by decide +kernel
theorem dJ7_fill_53178_12 : decode cJ7_fill_53178 12 = .ok (.iload_n 1, 1) := by decide +kernel
theorem dJ7_fill_53178_13 : decode cJ7_fill_53178 13 = .ok (.iastore, 1) := by decide +kernel
theorem dJ7_fill_53178_14 : decode cJ7_fill_53178 14 = .ok (.iinc 2 1, 3) := by decide +kernel
theorem dJ7_fill_53178_17 : decode cJ7_fill_53178 17 = .ok (.goto (-12), 3) := by decide +kernel
theorem dJ7_fill_53178_20 : decode cJ7_fill_53178 20 = .ok (.return_, 1) := by decide +kernel
