theorem dX7_judge_0 : decode cX7_judge 0 = .ok (.iload_n 1, 1) := by decide +kernel
theorem dX7_judge_1 : decode cX7_judge 1 = .ok (.i2l, 1) := by decide +kernel
theorem dX7_judge_2 : decode cX7_judge 2 = .ok (.lconst 0, 1) := by decide +kernel
theorem dX7_judge_3 : decode cX7_judge 3 = .ok (.ldc2_w 191, 3) := by decide +kernel
theorem dX7_judge_6 : decode cX7_judge 6 = .ok (.invokestatic 78, 3) := by decide +kernel
theorem dX7_judge_9 : decode cX7_judge 9 = .ok (.ifCond .ne 6, 3) := by decide +kernel
theorem dX7_judge_12 : decode cX7_judge 12 = .ok (.bipush (-2), 2) := by decide +kernel
theorem dX7_judge_14 : decode cX7_judge 14 = .ok (.ireturn, 1) := by decide +kernel
theorem dX7_judge_15 : decode cX7_judge 15 = .ok (.aload_n 0, 1) := by decide +kernel
theorem dX7_judge_16 : decode cX7_judge 16 = .ok (.aload_n 0, 1) := by decide +kernel
theorem dX7_judge_17 : decode cX7_judge 17 = .ok (.invokevirtual 193, 3) := by decide +kernel
theorem dX7_judge_20 : decode cX7_judge 20 = .ok (.invokevirtual 196, 3) := by decide +kernel
theorem dX7_judge_23 : decode cX7_judge 23 = .ok (.istore_n 2, 1) := by decide +kernel
theorem dX7_judge_24 : decode cX7_judge 24 = .ok (.iload_n 2, 1) := by decide +kernel
theorem dX7_judge_25 : decode cX7_judge 25 = .ok (.bipush (-5), 2) := by decide +kernel
theorem dX7_judge_27 : decode cX7_judge 27 = .ok (.if_icmp .eq 14, 3) := by decide +kernel
theorem dX7_judge_30 : decode cX7_judge 30 = .ok (.iload_n 1, 1) := by decide +kernel
theorem dX7_judge_31 : decode cX7_judge 31 = .ok (.iconst 1, 1) := by decide +kernel
theorem dX7_judge_32 : decode cX7_judge 32 = .ok (.if_icmp .le 11, 3) := by decide +kernel
theorem dX7_judge_35 : decode cX7_judge 35 = .ok (.iload_n 2, 1) := by decide +kernel
theorem dX7_judge_36 : decode cX7_judge 36 = .ok (.bipush (-3), 2) := by decide +kernel
theorem dX7_judge_38 : decode cX7_judge 38 = .ok (.if_icmp .ne 5, 3) := by decide +kernel
theorem dX7_judge_41 : decode cX7_judge 41 = .ok (.iload_n 2, 1) := by decide +kernel
theorem dX7_judge_42 : decode cX7_judge 42 = .ok (.ireturn, 1) := by decide +kernel
theorem dX7_judge_43 : decode cX7_judge 43 = .ok (.iload_n 1, 1) := by decide +kernel
theorem dX7_judge_44 : decode cX7_judge 44 = .ok (.ifCond .ne 10, 3) := by decide +kernel
theorem dX7_judge_47 : decode cX7_judge 47 = .ok (.aload_n 0, 1) := by decide +kernel
theorem dX7_judge_48 : decode cX7_judge 48 = .ok (.getfield 169, 3) := by decide +kernel
theorem dX7_judge_51 : decode cX7_judge 51 = .ok (.goto 19, 3) := by decide +kernel
theorem dX7_judge_54 : decode cX7_judge 54 = .ok (.iload_n 1, 1) := by decide +kernel
theorem dX7_judge_55 : decode cX7_judge 55 = .ok (.iconst 1, 1) := by decide +kernel
theorem dX7_judge_56 : decode cX7_judge 56 = .ok (.if_icmp .ne 10, 3) := by decide +kernel
theorem dX7_judge_59 : decode cX7_judge 59 = .ok (.aload_n 0, 1) := by decide +kernel
theorem dX7_judge_60 : decode cX7_judge 60 = .ok (.getfield 172, 3) := by decide +kernel
theorem dX7_judge_63 : decode cX7_judge 63 = .ok (.goto 7, 3) := by decide +kernel
theorem dX7_judge_66 : decode cX7_judge 66 = .ok (.aload_n 0, 1) := by decide +kernel
theorem dX7_judge_67 : decode cX7_judge 67 = .ok (.getfield 160, 3) := by decide +kernel
theorem dX7_judge_70 : decode cX7_judge 70 = .ok (.ireturn, 1) := by decide +kernel
theorem dX7_ofHouse_0 : decode cX7_ofHouse 0 = .ok (.iload_n 2, 1) := by decide +kernel
theorem dX7_ofHouse_1 : decode cX7_ofHouse 1 = .ok (.ifCond .ne 12, 3) := by decide +kernel
theorem dX7_ofHouse_4 : decode cX7_ofHouse 4 = .ok (.aload_n 0, 1) := by decide +kernel
theorem dX7_ofHouse_5 : decode cX7_ofHouse 5 = .ok (.getfield 19, 3) := by decide +kernel
theorem dX7_ofHouse_8 : decode cX7_ofHouse 8 = .ok (.iload_n 1, 1) := by decide +kernel
theorem dX7_ofHouse_9 : decode cX7_ofHouse 9 = .ok (.iaload, 1) := by decide +kernel
theorem dX7_ofHouse_10 : decode cX7_ofHouse 10 = .ok (.goto 23, 3) := by decide +kernel
theorem dX7_ofHouse_13 : decode cX7_ofHouse 13 = .ok (.iload_n 2, 1) := by decide +kernel
theorem dX7_ofHouse_14 : decode cX7_ofHouse 14 = .ok (.iconst 1, 1) := by decide +kernel
theorem dX7_ofHouse_15 : decode cX7_ofHouse 15 = .ok (.if_icmp .ne 12, 3) := by decide +kernel
theorem dX7_ofHouse_18 : decode cX7_ofHouse 18 = .ok (.aload_n 0, 1) := by decide +kernel
theorem dX7_ofHouse_19 : decode cX7_ofHouse 19 = .ok (.getfield 13, 3) := by decide +kernel
theorem dX7_ofHouse_22 : decode cX7_ofHouse 22 = .ok (.iload_n 1, 1) := by decide +kernel
theorem dX7_ofHouse_23 : decode cX7_ofHouse 23 = .ok (.iaload, 1) := by decide +kernel
theorem dX7_ofHouse_24 : decode cX7_ofHouse 24 = .ok (.goto 9, 3) := by decide +kernel
theorem dX7_ofHouse_27 : decode cX7_ofHouse 27 = .ok (.aload_n 0, 1) := by decide +kernel
theorem dX7_ofHouse_28 : decode cX7_ofHouse 28 = .ok (.getfield 16, 3) := by decide +kernel
theorem dX7_ofHouse_31 : decode cX7_ofHouse 31 = .ok (.iload_n 1, 1) := by decide +kernel
theorem dX7_ofHouse_32 : decode cX7_ofHouse 32 = .ok (.iaload, 1) := by decide +kernel
theorem dX7_ofHouse_33 : decode cX7_ofHouse 33 = .ok (.ireturn, 1) := by decide +kernel
set_option maxRecDepth 20000 in
theorem ggX7_behind_X7_isHouse : GoodIn wsX7_behind wsX7_isHouse := goodIn_r _ [5, 6, 7, 8, 4, 9] (by decide +kernel) (by decide +kernel)
set_option maxRecDepth 20000 in
theorem gX7_behind_X7_isHouse : GoodIn wsX7_behind (va_wsS RX7 88 yX7_isHouse wsX7_isHouse) := goodIn_app (goodIn_of _ (by decide +kernel)) ggX7_behind_X7_isHouse
set_option maxRecDepth 20000 in
theorem ggX7_behind_X7_in : GoodIn wsX7_behind wsX7_in := goodIn_r _ [9] (by decide +kernel) (by decide +kernel)
set_option maxRecDepth 20000 in
theorem gX7_behind_X7_in : GoodIn wsX7_behind (va_wsS RX7 78 yX7_in wsX7_in) := goodIn_app (goodIn_of _ (by decide +kernel)) ggX7_behind_X7_in
set_option maxRecDepth 20000 in
theorem ggX7_behind_X7_refusal : GoodIn wsX7_behind wsX7_refusal := goodIn_r _ [13, 14, 15, 16, 17, 4, 18, 19, 20, 21, 22, 23, 24, 25, 26, 27, 28, 29, 30, 31, 32, 33, 34, 35, 36, 37, 38, 39, 40, 41, 42, 43, 44, 45, 46, 47, 7, 8, 9, 48, 49, 50, 51, 52, 53, 54, 55, 56, 57, 58, 59, 60, 61, 62, 63, 64, 65, 66, 67, 68, 69, 70, 71, 72, 73, 74, 75, 76, 77, 78, 79, 80, 81, 82, 83, 84, 85, 86, 87, 88, 89, 90, 91, 92, 93, 94, 95, 96, 97, 98, 107, 108, 109, 110, 111, 112, 113, 114, 115, 116, 117, 118, 119, 120, 121, 122, 123, 124, 125, 126, 127, 128, 129, 130, 131, 132, 133, 134, 135, 136, 137, 138, 139, 140] (by decide +kernel) (by decide +kernel)
set_option maxRecDepth 20000 in
theorem gX7_behind_X7_refusal : GoodIn wsX7_behind (wsV RX7 193 RX7 yX7_refusal wsX7_refusal) := goodIn_app (goodIn_of _ (by decide +kernel)) ggX7_behind_X7_refusal
set_option maxRecDepth 20000 in
theorem ggX7_behind_X7_ofHouse : GoodIn wsX7_behind wsX7_ofHouse := goodIn_r _ [102, 22, 20, 21, 107, 108, 109, 110, 111, 112, 113, 114, 115, 116, 117, 118, 119, 120, 121, 122, 123, 124, 125, 126, 127, 128, 129, 130, 131, 132, 133, 134, 135, 136, 137, 138, 139, 140] (by decide +kernel) (by decide +kernel)
set_option maxRecDepth 20000 in
theorem gX7_behind_X7_ofHouse : GoodIn wsX7_behind (wsV RX7 199 RX7 yX7_ofHouse wsX7_ofHouse) := goodIn_app (goodIn_of _ (by decide +kernel)) ggX7_behind_X7_ofHouse
set_option maxRecDepth 20000 in
theorem ggX7_behind_X7_back : GoodIn wsX7_behind wsX7_back := goodIn_r _ [106, 20, 19, 21, 22, 23, 24, 25, 26, 107, 108, 109, 110, 111, 112, 113, 114, 115, 116, 117, 118, 119, 120, 121, 122, 123, 124, 125, 126, 127, 128, 129, 130, 131, 132, 133, 134, 135, 136, 137, 138, 139, 140] (by decide +kernel) (by decide +kernel)
set_option maxRecDepth 20000 in
theorem gX7_behind_X7_back : GoodIn wsX7_behind (wsV RX7 196 RX7 yX7_back wsX7_back) := goodIn_app (goodIn_of _ (by decide +kernel)) ggX7_behind_X7_back
theorem dX7_behind_0 : decode cX7_behind 0 = .ok (.iload_n 1, 1) := by decide +kernel
theorem dX7_behind_1 : decode cX7_behind 1 = .ok (.invokestatic 88, 3) := by decide +kernel
theorem dX7_behind_4 : decode cX7_behind 4 = .ok (.ifCond .ne 5, 3) := by decide +kernel
theorem dX7_behind_7 : decode cX7_behind 7 = .ok (.iconst (-1), 1) := by decide +kernel
theorem dX7_behind_8 : decode cX7_behind 8 = .ok (.ireturn, 1) := by decide +kernel
theorem dX7_behind_9 : decode cX7_behind 9 = .ok (.iload_n 2, 1) := by decide +kernel
theorem dX7_behind_10 : decode cX7_behind 10 = .ok (.i2l, 1) := by decide +kernel
theorem dX7_behind_11 : decode cX7_behind 11 = .ok (.lconst 0, 1) := by decide +kernel
theorem dX7_behind_12 : decode cX7_behind 12 = .ok (.ldc2_w 191, 3) := by decide +kernel
theorem dX7_behind_15 : decode cX7_behind 15 = .ok (.invokestatic 78, 3) := by decide +kernel
theorem dX7_behind_18 : decode cX7_behind 18 = .ok (.ifCond .ne 6, 3) := by decide +kernel
theorem dX7_behind_21 : decode cX7_behind 21 = .ok (.bipush (-2), 2) := by decide +kernel
theorem dX7_behind_23 : decode cX7_behind 23 = .ok (.ireturn, 1) := by decide +kernel
theorem dX7_behind_24 : decode cX7_behind 24 = .ok (.aload_n 0, 1) := by decide +kernel
theorem dX7_behind_25 : decode cX7_behind 25 = .ok (.invokevirtual 193, 3) := by decide +kernel
theorem dX7_behind_28 : decode cX7_behind 28 = .ok (.istore_n 3, 1) := by decide +kernel
theorem dX7_behind_29 : decode cX7_behind 29 = .ok (.aload_n 0, 1) := by decide +kernel
theorem dX7_behind_30 : decode cX7_behind 30 = .ok (.iload_n 3, 1) := by decide +kernel
theorem dX7_behind_31 : decode cX7_behind 31 = .ok (.bipush (-6), 2) := by decide +kernel
theorem dX7_behind_33 : decode cX7_behind 33 = .ok (.if_icmp .eq 7, 3) := by decide +kernel
theorem dX7_behind_36 : decode cX7_behind 36 = .ok (.iload_n 3, 1) := by decide +kernel
theorem dX7_behind_37 : decode cX7_behind 37 = .ok (.goto 9, 3) := by decide +kernel
theorem dX7_behind_40 : decode cX7_behind 40 = .ok (.aload_n 0, 1) := by decide +kernel
theorem dX7_behind_41 : decode cX7_behind 41 = .ok (.iload_n 1, 1) := by decide +kernel
theorem dX7_behind_42 : decode cX7_behind 42 = .ok (.iload_n 2, 1) := by decide +kernel
theorem dX7_behind_43 : decode cX7_behind 43 = .ok (.invokevirtual 199, 3) := by decide +kernel
theorem dX7_behind_46 : decode cX7_behind 46 = .ok (.invokevirtual 196, 3) := by decide +kernel
theorem dX7_behind_49 : decode cX7_behind 49 = .ok (.ireturn, 1) := by decide +kernel
theorem dX7_ofPan_0 : decode cX7_ofPan 0 = .ok (.iload_n 1, 1) := by decide +kernel
theorem dX7_ofPan_1 : decode cX7_ofPan 1 = .ok (.ifCond .ne 10, 3) := by decide +kernel
theorem dX7_ofPan_4 : decode cX7_ofPan 4 = .ok (.aload_n 0, 1) := by decide +kernel
theorem dX7_ofPan_5 : decode cX7_ofPan 5 = .ok (.getfield 72, 3) := by decide +kernel
theorem dX7_ofPan_8 : decode cX7_ofPan 8 = .ok (.goto 31, 3) := by decide +kernel
theorem dX7_ofPan_11 : decode cX7_ofPan 11 = .ok (.iload_n 1, 1) := by decide +kernel
theorem dX7_ofPan_12 : decode cX7_ofPan 12 = .ok (.iconst 1, 1) := by decide +kernel
theorem dX7_ofPan_13 : decode cX7_ofPan 13 = .ok (.if_icmp .ne 10, 3) := by decide +kernel
theorem dX7_ofPan_16 : decode cX7_ofPan 16 = .ok (.aload_n 0, 1) := by decide +kernel
theorem dX7_ofPan_17 : decode cX7_ofPan 17 = .ok (.getfield 127, 3) := by decide +kernel
theorem dX7_ofPan_20 : decode cX7_ofPan 20 = .ok (.goto 19, 3) := by decide +kernel
theorem dX7_ofPan_23 : decode cX7_ofPan 23 = .ok (.iload_n 1, 1) := by decide +kernel
theorem dX7_ofPan_24 : decode cX7_ofPan 24 = .ok (.iconst 2, 1) := by decide +kernel
theorem dX7_ofPan_25 : decode cX7_ofPan 25 = .ok (.if_icmp .ne 10, 3) := by decide +kernel
theorem dX7_ofPan_28 : decode cX7_ofPan 28 = .ok (.aload_n 0, 1) := by decide +kernel
theorem dX7_ofPan_29 : decode cX7_ofPan 29 = .ok (.getfield 136, 3) := by decide +kernel
theorem dX7_ofPan_32 : decode cX7_ofPan 32 = .ok (.goto 7, 3) := by decide +kernel
theorem dX7_ofPan_35 : decode cX7_ofPan 35 = .ok (.aload_n 0, 1) := by decide +kernel
theorem dX7_ofPan_36 : decode cX7_ofPan 36 = .ok (.getfield 130, 3) := by decide +kernel
theorem dX7_ofPan_39 : decode cX7_ofPan 39 = .ok (.ireturn, 1) := by decide +kernel
set_option maxRecDepth 20000 in
theorem ggX7_pan_X7_in : GoodIn wsX7_pan wsX7_in := goodIn_r _ [5] (by decide +kernel) (by decide +kernel)
set_option maxRecDepth 20000 in
theorem gX7_pan_X7_in : GoodIn wsX7_pan (va_wsS RX7 78 yX7_in wsX7_in) := goodIn_app (goodIn_of _ (by decide +kernel)) ggX7_pan_X7_in
set_option maxRecDepth 20000 in
theorem ggX7_pan_X7_refusal : GoodIn wsX7_pan wsX7_refusal := goodIn_r _ [9, 10, 11, 12, 13, 4, 14, 15, 16, 17, 18, 19, 20, 21, 22, 23, 24, 25, 26, 27, 28, 29, 30, 31, 32, 33, 34, 35, 36, 37, 38, 39, 40, 41, 42, 43, 2, 3, 5, 44, 45, 46, 47, 48, 49, 50, 51, 52, 53, 54, 55, 56, 57, 58, 59, 60, 61, 62, 63, 64, 65, 66, 67, 68, 69, 70, 71, 72, 73, 74, 75, 76, 77, 78, 79, 80, 81, 82, 83, 84, 85, 86, 87, 88, 89, 90, 91, 92, 93, 94, 103, 104, 105, 106, 107, 108, 109, 110, 111, 112, 113, 114, 115, 116, 117, 118, 119, 120, 121, 122, 123, 124, 125, 126, 127, 128, 129, 130, 131, 132, 133, 134, 135, 136] (by decide +kernel) (by decide +kernel)
set_option maxRecDepth 20000 in
theorem gX7_pan_X7_refusal : GoodIn wsX7_pan (wsV RX7 193 RX7 yX7_refusal wsX7_refusal) := goodIn_app (goodIn_of _ (by decide +kernel)) ggX7_pan_X7_refusal
set_option maxRecDepth 20000 in
theorem ggX7_pan_X7_ofPan : GoodIn wsX7_pan wsX7_ofPan := goodIn_r _ [98, 19, 20, 21, 22, 103, 104, 105, 106, 107, 108, 109, 110, 111, 112, 113, 114, 115, 116, 117, 118, 119, 120, 121, 122, 123, 124, 125, 126, 127, 128, 129, 130, 131, 132, 133, 134, 135, 136] (by decide +kernel) (by decide +kernel)
set_option maxRecDepth 20000 in
theorem gX7_pan_X7_ofPan : GoodIn wsX7_pan (wsV RX7 204 RX7 yX7_ofPan wsX7_ofPan) := goodIn_app (goodIn_of _ (by decide +kernel)) ggX7_pan_X7_ofPan
set_option maxRecDepth 20000 in
theorem ggX7_pan_X7_back : GoodIn wsX7_pan wsX7_back := goodIn_r _ [102, 16, 15, 17, 18, 19, 20, 21, 22, 103, 104, 105, 106, 107, 108, 109, 110, 111, 112, 113, 114, 115, 116, 117, 118, 119, 120, 121, 122, 123, 124, 125, 126, 127, 128, 129, 130, 131, 132, 133, 134, 135, 136] (by decide +kernel) (by decide +kernel)
set_option maxRecDepth 20000 in
theorem gX7_pan_X7_back : GoodIn wsX7_pan (wsV RX7 196 RX7 yX7_back wsX7_back) := goodIn_app (goodIn_of _ (by decide +kernel)) ggX7_pan_X7_back
theorem dX7_pan_0 : decode cX7_pan 0 = .ok (.iload_n 1, 1) := by decide +kernel
theorem dX7_pan_1 : decode cX7_pan 1 = .ok (.i2l, 1) := by decide +kernel
theorem dX7_pan_2 : decode cX7_pan 2 = .ok (.lconst 0, 1) := by decide +kernel
theorem dX7_pan_3 : decode cX7_pan 3 = .ok (.ldc2_w 202, 3) := by decide +kernel
theorem dX7_pan_6 : decode cX7_pan 6 = .ok (.invokestatic 78, 3) := by decide +kernel
theorem dX7_pan_9 : decode cX7_pan 9 = .ok (.ifCond .ne 6, 3) := by decide +kernel
theorem dX7_pan_12 : decode cX7_pan 12 = .ok (.bipush (-2), 2) := by decide +kernel
theorem dX7_pan_14 : decode cX7_pan 14 = .ok (.ireturn, 1) := by decide +kernel
theorem dX7_pan_15 : decode cX7_pan 15 = .ok (.aload_n 0, 1) := by decide +kernel
theorem dX7_pan_16 : decode cX7_pan 16 = .ok (.invokevirtual 193, 3) := by decide +kernel
theorem dX7_pan_19 : decode cX7_pan 19 = .ok (.istore_n 2, 1) := by decide +kernel
theorem dX7_pan_20 : decode cX7_pan 20 = .ok (.aload_n 0, 1) := by decide +kernel
theorem dX7_pan_21 : decode cX7_pan 21 = .ok (.iload_n 2, 1) := by decide +kernel
theorem dX7_pan_22 : decode cX7_pan 22 = .ok (.bipush (-6), 2) := by decide +kernel
theorem dX7_pan_24 : decode cX7_pan 24 = .ok (.if_icmp .eq 7, 3) := by decide +kernel
theorem dX7_pan_27 : decode cX7_pan 27 = .ok (.iload_n 2, 1) := by decide +kernel
theorem dX7_pan_28 : decode cX7_pan 28 = .ok (.goto 8, 3) := by decide +kernel
theorem dX7_pan_31 : decode cX7_pan 31 = .ok (.aload_n 0, 1) := by decide +kernel
theorem dX7_pan_32 : decode cX7_pan 32 = .ok (.iload_n 1, 1) := by decide +kernel
theorem dX7_pan_33 : decode cX7_pan 33 = .ok (.invokevirtual 204, 3) := by decide +kernel
theorem dX7_pan_36 : decode cX7_pan 36 = .ok (.invokevirtual 196, 3) := by decide +kernel
theorem dX7_pan_39 : decode cX7_pan 39 = .ok (.ireturn, 1) := by decide +kernel
theorem dX7_believing_0 : decode cX7_believing 0 = .ok (.iconst 0, 1) := by decide +kernel
theorem dX7_believing_1 : decode cX7_believing 1 = .ok (.istore_n 2, 1) := by decide +kernel
theorem dX7_believing_2 : decode cX7_believing 2 = .ok (.iconst 0, 1) := by decide +kernel
theorem dX7_believing_3 : decode cX7_believing 3 = .ok (.istore_n 3, 1) := by decide +kernel
theorem dX7_believing_4 : decode cX7_believing 4 = .ok (.iload_n 3, 1) := by decide +kernel
theorem dX7_believing_5 : decode cX7_believing 5 = .ok (.bipush 10, 2) := by decide +kernel
theorem dX7_believing_7 : decode cX7_believing 7 = .ok (.if_icmp .ge 29, 3) := by decide +kernel
theorem dX7_believing_10 : decode cX7_believing 10 = .ok (.iload_n 2, 1) := by decide +kernel
theorem dX7_believing_11 : decode cX7_believing 11 = .ok (.aload_n 0, 1) := by decide +kernel
theorem dX7_believing_12 : decode cX7_believing 12 = .ok (.getfield 19, 3) := by decide +kernel
theorem dX7_believing_15 : decode cX7_believing 15 = .ok (.iload_n 3, 1) := by decide +kernel
theorem dX7_believing_16 : decode cX7_believing 16 = .ok (.iaload, 1) := by decide +kernel
theorem dX7_believing_17 : decode cX7_believing 17 = .ok (.iload_n 1, 1) := by decide +kernel
theorem dX7_believing_18 : decode cX7_believing 18 = .ok (.if_icmp .ne 9, 3) := by decide +kernel
theorem dX7_believing_21 : decode cX7_believing 21 = .ok (.iconst 1, 1) := by decide +kernel
theorem dX7_believing_22 : decode cX7_believing 22 = .ok (.iload_n 3, 1) := by decide +kernel
theorem dX7_believing_23 : decode cX7_believing 23 = .ok (.ishl, 1) := by decide +kernel
theorem dX7_believing_24 : decode cX7_believing 24 = .ok (.goto 4, 3) := by decide +kernel
theorem dX7_believing_27 : decode cX7_believing 27 = .ok (.iconst 0, 1) := by decide +kernel
theorem dX7_believing_28 : decode cX7_believing 28 = .ok (.ior, 1) := by decide +kernel
theorem dX7_believing_29 : decode cX7_believing 29 = .ok (.istore_n 2, 1) := by decide +kernel
theorem dX7_believing_30 : decode cX7_believing 30 = .ok (.iinc 3 1, 3) := by decide +kernel
theorem dX7_believing_33 : decode cX7_believing 33 = .ok (.goto (-29), 3) := by decide +kernel
theorem dX7_believing_36 : decode cX7_believing 36 = .ok (.iload_n 2, 1) := by decide +kernel
theorem dX7_believing_37 : decode cX7_believing 37 = .ok (.ireturn, 1) := by decide +kernel
set_option maxRecDepth 20000 in
theorem ggX7_holds_X7_isTale : GoodIn wsX7_holds wsX7_isTale := goodIn_r _ [4, 5, 6, 7, 3, 8] (by decide +kernel) (by decide +kernel)
set_option maxRecDepth 20000 in
theorem gX7_holds_X7_isTale : GoodIn wsX7_holds (va_wsS RX7 93 yX7_isTale wsX7_isTale) := goodIn_app (goodIn_of _ (by decide +kernel)) ggX7_holds_X7_isTale
set_option maxRecDepth 20000 in
theorem ggX7_holds_X7_refusal : GoodIn wsX7_holds wsX7_refusal := goodIn_r _ [12, 13, 14, 15, 16, 3, 17, 18, 19, 20, 21, 22, 23, 24, 25, 26, 27, 28, 29, 30, 31, 32, 33, 34, 35, 36, 37, 38, 39, 40, 41, 42, 43, 44, 45, 46, 6, 7, 8, 47, 48, 49, 50, 51, 52, 53, 54, 55, 56, 57, 58, 59, 60, 61, 62, 63, 64, 65, 66, 67, 68, 69, 70, 71, 72, 73, 74, 75, 76, 77, 78, 79, 80, 81, 82, 83, 84, 85, 86, 87, 88, 89, 90, 91, 92, 93, 94, 95, 96, 97, 106, 107, 108, 109, 110, 111, 112, 113, 114, 115, 116, 117, 118, 119, 120, 121, 122, 123, 124, 125, 126, 127, 128, 129, 130, 131, 132, 133, 134, 135, 136, 137, 138, 139] (by decide +kernel) (by decide +kernel)
set_option maxRecDepth 20000 in
theorem gX7_holds_X7_refusal : GoodIn wsX7_holds (wsV RX7 193 RX7 yX7_refusal wsX7_refusal) := goodIn_app (goodIn_of _ (by decide +kernel)) ggX7_holds_X7_refusal
set_option maxRecDepth 20000 in
theorem ggX7_holds_X7_believing : GoodIn wsX7_holds wsX7_believing := goodIn_r _ [101, 21, 106, 107, 108, 109, 110, 111, 112, 113, 114, 115, 116, 117, 118, 119, 120, 121, 122, 123, 124, 125, 126, 127, 128, 129, 130, 131, 132, 133, 134, 135, 136, 137, 138, 139] (by decide +kernel) (by decide +kernel)
set_option maxRecDepth 20000 in
theorem gX7_holds_X7_believing : GoodIn wsX7_holds (wsV RX7 207 RX7 yX7_believing wsX7_believing) := goodIn_app (goodIn_of _ (by decide +kernel)) ggX7_holds_X7_believing
set_option maxRecDepth 20000 in
theorem ggX7_holds_X7_back : GoodIn wsX7_holds wsX7_back := goodIn_r _ [105, 19, 18, 20, 21, 22, 23, 24, 25, 106, 107, 108, 109, 110, 111, 112, 113, 114, 115, 116, 117, 118, 119, 120, 121, 122, 123, 124, 125, 126, 127, 128, 129, 130, 131, 132, 133, 134, 135, 136, 137, 138, 139] (by decide +kernel) (by decide +kernel)
set_option maxRecDepth 20000 in
theorem gX7_holds_X7_back : GoodIn wsX7_holds (wsV RX7 196 RX7 yX7_back wsX7_back) := goodIn_app (goodIn_of _ (by decide +kernel)) ggX7_holds_X7_back
theorem dX7_holds_0 : decode cX7_holds 0 = .ok (.iload_n 1, 1) := by decide +kernel
theorem dX7_holds_1 : decode cX7_holds 1 = .ok (.invokestatic 93, 3) := by decide +kernel
theorem dX7_holds_4 : decode cX7_holds 4 = .ok (.ifCond .ne 5, 3) := by decide +kernel
theorem dX7_holds_7 : decode cX7_holds 7 = .ok (.iconst (-1), 1) := by decide +kernel
theorem dX7_holds_8 : decode cX7_holds 8 = .ok (.ireturn, 1) := by decide +kernel
theorem dX7_holds_9 : decode cX7_holds 9 = .ok (.aload_n 0, 1) := by decide +kernel
theorem dX7_holds_10 : decode cX7_holds 10 = .ok (.invokevirtual 193, 3) := by decide +kernel
theorem dX7_holds_13 : decode cX7_holds 13 = .ok (.istore_n 2, 1) := by decide +kernel
theorem dX7_holds_14 : decode cX7_holds 14 = .ok (.aload_n 0, 1) := by decide +kernel
theorem dX7_holds_15 : decode cX7_holds 15 = .ok (.iload_n 2, 1) := by decide +kernel
theorem dX7_holds_16 : decode cX7_holds 16 = .ok (.bipush (-6), 2) := by decide +kernel
theorem dX7_holds_18 : decode cX7_holds 18 = .ok (.if_icmp .eq 7, 3) := by decide +kernel
theorem dX7_holds_21 : decode cX7_holds 21 = .ok (.iload_n 2, 1) := by decide +kernel
theorem dX7_holds_22 : decode cX7_holds 22 = .ok (.goto 8, 3) := by decide +kernel
theorem dX7_holds_25 : decode cX7_holds 25 = .ok (.aload_n 0, 1) := by decide +kernel
theorem dX7_holds_26 : decode cX7_holds 26 = .ok (.iload_n 1, 1) := by decide +kernel
theorem dX7_holds_27 : decode cX7_holds 27 = .ok (.invokevirtual 207, 3) := by decide +kernel
theorem dX7_holds_30 : decode cX7_holds 30 = .ok (.invokevirtual 196, 3) := by decide +kernel
theorem dX7_holds_33 : decode cX7_holds 33 = .ok (.ireturn, 1) := by decide +kernel
set_option maxRecDepth 20000 in
theorem ggX7_other_X7_in : GoodIn wsX7_other wsX7_in := goodIn_r _ [6] (by decide +kernel) (by decide +kernel)
set_option maxRecDepth 20000 in
theorem gX7_other_X7_in : GoodIn wsX7_other (va_wsS RX7 78 yX7_in wsX7_in) := goodIn_app (goodIn_of _ (by decide +kernel)) ggX7_other_X7_in
set_option maxRecDepth 20000 in
theorem ggX7_other_X7_refusal : GoodIn wsX7_other wsX7_refusal := goodIn_r _ [10, 11, 12, 13, 14, 5, 15, 16, 17, 18, 19, 20, 21, 22, 23, 24, 25, 26, 27, 28, 29, 30, 31, 32, 33, 34, 35, 36, 37, 38, 39, 40, 41, 42, 43, 44, 3, 4, 6, 45, 46, 47, 48, 49, 50, 51, 52, 53, 54, 55, 56, 1, 2, 57, 58, 59, 60, 61, 62, 63, 64, 65, 66, 67, 68, 69, 70, 71, 72, 73, 74, 75, 76, 77, 78, 79, 80, 81, 82, 83, 84, 85, 86, 87, 88, 89, 90, 91, 92, 93, 98, 99, 100, 101, 102, 103, 104, 105, 106, 107, 108, 109, 110, 111, 112, 113, 114, 115, 116, 117, 118, 119, 120, 121, 122, 123, 124, 125, 126, 127, 128, 129, 130, 131] (by decide +kernel) (by decide +kernel)
set_option maxRecDepth 20000 in
theorem gX7_other_X7_refusal : GoodIn wsX7_other (wsV RX7 193 RX7 yX7_refusal wsX7_refusal) := goodIn_app (goodIn_of _ (by decide +kernel)) ggX7_other_X7_refusal
set_option maxRecDepth 20000 in
theorem ggX7_other_X7_back : GoodIn wsX7_other wsX7_back := goodIn_r _ [97, 17, 16, 18, 19, 20, 21, 22, 23, 98, 99, 100, 101, 102, 103, 104, 105, 106, 107, 108, 109, 110, 111, 112, 113, 114, 115, 116, 117, 118, 119, 120, 121, 122, 123, 124, 125, 126, 127, 128, 129, 130, 131] (by decide +kernel) (by decide +kernel)
set_option maxRecDepth 20000 in
theorem gX7_other_X7_back : GoodIn wsX7_other (wsV RX7 196 RX7 yX7_back wsX7_back) := goodIn_app (goodIn_of _ (by decide +kernel)) ggX7_other_X7_back
theorem dX7_other_0 : decode cX7_other 0 = .ok (.iload_n 1, 1) := by decide +kernel
theorem dX7_other_1 : decode cX7_other 1 = .ok (.i2l, 1) := by decide +kernel
theorem dX7_other_2 : decode cX7_other 2 = .ok (.lconst 0, 1) := by decide +kernel
theorem dX7_other_3 : decode cX7_other 3 = .ok (.lconst 1, 1) := by decide +kernel
theorem dX7_other_4 : decode cX7_other 4 = .ok (.invokestatic 78, 3) := by decide +kernel
theorem dX7_other_7 : decode cX7_other 7 = .ok (.ifCond .ne 6, 3) := by decide +kernel
theorem dX7_other_10 : decode cX7_other 10 = .ok (.bipush (-2), 2) := by decide +kernel
theorem dX7_other_12 : decode cX7_other 12 = .ok (.ireturn, 1) := by decide +kernel
theorem dX7_other_13 : decode cX7_other 13 = .ok (.aload_n 0, 1) := by decide +kernel
theorem dX7_other_14 : decode cX7_other 14 = .ok (.aload_n 0, 1) := by decide +kernel
theorem dX7_other_15 : decode cX7_other 15 = .ok (.invokevirtual 193, 3) := by decide +kernel
theorem dX7_other_18 : decode cX7_other 18 = .ok (.invokevirtual 196, 3) := by decide +kernel
theorem dX7_other_21 : decode cX7_other 21 = .ok (.istore_n 2, 1) := by decide +kernel
theorem dX7_other_22 : decode cX7_other 22 = .ok (.iload_n 2, 1) := by decide +kernel
theorem dX7_other_23 : decode cX7_other 23 = .ok (.bipush (-6), 2) := by decide +kernel
theorem dX7_other_25 : decode cX7_other 25 = .ok (.if_icmp .eq 7, 3) := by decide +kernel
theorem dX7_other_28 : decode cX7_other 28 = .ok (.iload_n 2, 1) := by decide +kernel
theorem dX7_other_29 : decode cX7_other 29 = .ok (.goto 18, 3) := by decide +kernel
theorem dX7_other_32 : decode cX7_other 32 = .ok (.iload_n 1, 1) := by decide +kernel
theorem dX7_other_33 : decode cX7_other 33 = .ok (.ifCond .ne 10, 3) := by decide +kernel
theorem dX7_other_36 : decode cX7_other 36 = .ok (.aload_n 0, 1) := by decide +kernel
theorem dX7_other_37 : decode cX7_other 37 = .ok (.getfield 163, 3) := by decide +kernel
theorem dX7_other_40 : decode cX7_other 40 = .ok (.goto 7, 3) := by decide +kernel
theorem dX7_other_43 : decode cX7_other 43 = .ok (.aload_n 0, 1) := by decide +kernel
theorem dX7_other_44 : decode cX7_other 44 = .ok (.getfield 166, 3) := by decide +kernel
theorem dX7_other_47 : decode cX7_other 47 = .ok (.ireturn, 1) := by decide +kernel
set_option maxRecDepth 20000 in
theorem ggX7_done_X7_refusal : GoodIn wsX7_done wsX7_refusal := goodIn_r _ [7, 8, 9, 10, 11, 6, 12, 13, 14, 15, 16, 17, 18, 19, 20, 21, 22, 23, 24, 2, 1, 25, 26, 27, 28, 29, 30, 31, 32, 33, 34, 35, 36, 37, 38, 39, 40, 41, 42, 43, 44, 45, 46, 47, 48, 49, 50, 51, 52, 53, 54, 55, 56, 57, 58, 59, 60, 61, 62, 63, 64, 65, 66, 67, 68, 69, 70, 71, 72, 73, 74, 75, 76, 77, 78, 79, 80, 81, 82, 83, 84, 85, 86, 87, 88, 89, 90, 91, 92, 93, 98, 99, 100, 101, 102, 103, 104, 105, 106, 107, 108, 109, 110, 111, 112, 113, 114, 115, 116, 117, 118, 119, 120, 121, 122, 123, 124, 125, 126, 127, 128, 129, 130, 131] (by decide +kernel) (by decide +kernel)
set_option maxRecDepth 20000 in
theorem gX7_done_X7_refusal : GoodIn wsX7_done (wsV RX7 193 RX7 yX7_refusal wsX7_refusal) := goodIn_app (goodIn_of _ (by decide +kernel)) ggX7_done_X7_refusal
set_option maxRecDepth 20000 in
theorem ggX7_done_X7_back : GoodIn wsX7_done wsX7_back := goodIn_r _ [97, 14, 13, 15, 16, 17, 18, 19, 20, 98, 99, 100, 101, 102, 103, 104, 105, 106, 107, 108, 109, 110, 111, 112, 113, 114, 115, 116, 117, 118, 119, 120, 121, 122, 123, 124, 125, 126, 127, 128, 129, 130, 131] (by decide +kernel) (by decide +kernel)
set_option maxRecDepth 20000 in
theorem gX7_done_X7_back : GoodIn wsX7_done (wsV RX7 196 RX7 yX7_back wsX7_back) := goodIn_app (goodIn_of _ (by decide +kernel)) ggX7_done_X7_back
theorem dX7_done_0 : decode cX7_done 0 = .ok (.aload_n 0, 1) := by decide +kernel
theorem dX7_done_1 : decode cX7_done 1 = .ok (.invokevirtual 193, 3) := by decide +kernel
theorem dX7_done_4 : decode cX7_done 4 = .ok (.istore_n 1, 1) := by decide +kernel
theorem dX7_done_5 : decode cX7_done 5 = .ok (.iload_n 1, 1) := by decide +kernel
theorem dX7_done_6 : decode cX7_done 6 = .ok (.bipush (-6), 2) := by decide +kernel
theorem dX7_done_8 : decode cX7_done 8 = .ok (.if_icmp .eq 9, 3) := by decide +kernel
theorem dX7_done_11 : decode cX7_done 11 = .ok (.aload_n 0, 1) := by decide +kernel
theorem dX7_done_12 : decode cX7_done 12 = .ok (.iload_n 1, 1) := by decide +kernel
theorem dX7_done_13 : decode cX7_done 13 = .ok (.invokevirtual 196, 3) := by decide +kernel
theorem dX7_done_16 : decode cX7_done 16 = .ok (.ireturn, 1) := by decide +kernel
theorem dX7_done_17 : decode cX7_done 17 = .ok (.aload_n 0, 1) := by decide +kernel
theorem dX7_done_18 : decode cX7_done 18 = .ok (.iconst 0, 1) := by decide +kernel
theorem dX7_done_19 : decode cX7_done 19 = .ok (.putfield 100, 3) := by decide +kernel
theorem dX7_done_22 : decode cX7_done 22 = .ok (.aload_n 0, 1) := by decide +kernel
theorem dX7_done_23 : decode cX7_done 23 = .ok (.getfield 103, 3) := by decide +kernel
theorem dX7_done_26 : decode cX7_done 26 = .ok (.ireturn, 1) := by decide +kernel
theorem dX7_findOff_0 : decode cX7_findOff 0 = .ok (.iconst 0, 1) := by decide +kernel
theorem dX7_findOff_1 : decode cX7_findOff 1 = .ok (.istore_n 1, 1) := by decide +kernel
theorem dX7_findOff_2 : decode cX7_findOff 2 = .ok (.iload_n 1, 1) := by decide +kernel
theorem dX7_findOff_3 : decode cX7_findOff 3 = .ok (.bipush 121, 2) := by decide +kernel
theorem dX7_findOff_5 : decode cX7_findOff 5 = .ok (.if_icmp .ge 51, 3) := by decide +kernel
theorem dX7_findOff_8 : decode cX7_findOff 8 = .ok (.aload_n 0, 1) := by decide +kernel
theorem dX7_findOff_9 : decode cX7_findOff 9 = .ok (.getfield 46, 3) := by decide +kernel
theorem dX7_findOff_12 : decode cX7_findOff 12 = .ok (.iload_n 1, 1) := by decide +kernel
theorem dX7_findOff_13 : decode cX7_findOff 13 = .ok (.iload_n 1, 1) := by decide +kernel
theorem dX7_findOff_14 : decode cX7_findOff 14 = .ok (.bipush 11, 2) := by decide +kernel
theorem dX7_findOff_16 : decode cX7_findOff 16 = .ok (.idiv, 1) := by decide +kernel
theorem dX7_findOff_17 : decode cX7_findOff 17 = .ok (.iload_n 1, 1) := by decide +kernel
theorem dX7_findOff_18 : decode cX7_findOff 18 = .ok (.bipush 11, 2) := by decide +kernel
theorem dX7_findOff_20 : decode cX7_findOff 20 = .ok (.irem, 1) := by decide +kernel
theorem dX7_findOff_21 : decode cX7_findOff 21 = .ok (.if_icmp .ne 7, 3) := by decide +kernel
theorem dX7_findOff_24 : decode cX7_findOff 24 = .ok (.iconst 0, 1) := by decide +kernel
theorem dX7_findOff_25 : decode cX7_findOff 25 = .ok (.goto 24, 3) := by decide +kernel
theorem dX7_findOff_28 : decode cX7_findOff 28 = .ok (.aload_n 0, 1) := by decide +kernel
theorem dX7_findOff_29 : decode cX7_findOff 29 = .ok (.getfield 7, 3) := by decide +kernel
theorem dX7_findOff_32 : decode cX7_findOff 32 = .ok (.iload_n 1, 1) := by decide +kernel
theorem dX7_findOff_33 : decode cX7_findOff 33 = .ok (.iaload, 1) := by decide +kernel
theorem dX7_findOff_34 : decode cX7_findOff 34 = .ok (.ifCond .le 12, 3) := by decide +kernel
theorem dX7_findOff_37 : decode cX7_findOff 37 = .ok (.aload_n 0, 1) := by decide +kernel
theorem dX7_findOff_38 : decode cX7_findOff 38 = .ok (.getfield 7, 3) := by decide +kernel
theorem dX7_findOff_41 : decode cX7_findOff 41 = .ok (.iload_n 1, 1) := by decide +kernel
theorem dX7_findOff_42 : decode cX7_findOff 42 = .ok (.iaload, 1) := by decide +kernel
theorem dX7_findOff_43 : decode cX7_findOff 43 = .ok (.goto 6, 3) := by decide +kernel
theorem dX7_findOff_46 : decode cX7_findOff 46 = .ok (.sipush 1000, 3) := by decide +kernel
theorem dX7_findOff_49 : decode cX7_findOff 49 = .ok (.iastore, 1) := by decide +kernel
theorem dX7_findOff_50 : decode cX7_findOff 50 = .ok (.iinc 1 1, 3) := by decide +kernel
theorem dX7_findOff_53 : decode cX7_findOff 53 = .ok (.goto (-51), 3) := by decide +kernel
theorem dX7_findOff_56 : decode cX7_findOff 56 = .ok (.iconst 0, 1) := by decide +kernel
theorem dX7_findOff_57 : decode cX7_findOff 57 = .ok (.istore_n 1, 1) := by decide +kernel
theorem dX7_findOff_58 : decode cX7_findOff 58 = .ok (.iload_n 1, 1) := by decide +kernel
theorem dX7_findOff_59 : decode cX7_findOff 59 = .ok (.bipush 11, 2) := by decide +kernel
theorem dX7_findOff_61 : decode cX7_findOff 61 = .ok (.if_icmp .ge 79, 3) := by decide +kernel
theorem dX7_findOff_64 : decode cX7_findOff 64 = .ok (.iconst 0, 1) := by decide +kernel
theorem dX7_findOff_65 : decode cX7_findOff 65 = .ok (.istore_n 2, 1) := by decide +kernel
theorem dX7_findOff_66 : decode cX7_findOff 66 = .ok (.iload_n 2, 1) := by decide +kernel
theorem dX7_findOff_67 : decode cX7_findOff 67 = .ok (.bipush 121, 2) := by decide +kernel
theorem dX7_findOff_69 : decode cX7_findOff 69 = .ok (.if_icmp .ge 65, 3) := by decide +kernel
theorem dX7_findOff_72 : decode cX7_findOff 72 = .ok (.aload_n 0, 1) := by decide +kernel
theorem dX7_findOff_73 : decode cX7_findOff 73 = .ok (.getfield 46, 3) := by decide +kernel
theorem dX7_findOff_76 : decode cX7_findOff 76 = .ok (.bipush 11, 2) := by decide +kernel
theorem dX7_findOff_78 : decode cX7_findOff 78 = .ok (.iload_n 2, 1) := by decide +kernel
theorem dX7_findOff_79 : decode cX7_findOff 79 = .ok (.bipush 11, 2) := by decide +kernel
theorem dX7_findOff_81 : decode cX7_findOff 81 = .ok (.idiv, 1) := by decide +kernel
theorem dX7_findOff_82 : decode cX7_findOff 82 = .ok (.imul, 1) := by decide +kernel
theorem dX7_findOff_83 : decode cX7_findOff 83 = .ok (.iload_n 1, 1) := by decide +kernel
theorem dX7_findOff_84 : decode cX7_findOff 84 = .ok (.iadd, 1) := by decide +kernel
theorem dX7_findOff_85 : decode cX7_findOff 85 = .ok (.iaload, 1) := by decide +kernel
theorem dX7_findOff_86 : decode cX7_findOff 86 = .ok (.aload_n 0, 1) := by decide +kernel
theorem dX7_findOff_87 : decode cX7_findOff 87 = .ok (.getfield 46, 3) := by decide +kernel
theorem dX7_findOff_90 : decode cX7_findOff 90 = .ok (.bipush 11, 2) := by decide +kernel
theorem dX7_findOff_92 : decode cX7_findOff 92 = .ok (.iload_n 1, 1) := by decide +kernel
theorem dX7_findOff_93 : decode cX7_findOff 93 = .ok (.imul, 1) := by decide +kernel
theorem dX7_findOff_94 : decode cX7_findOff 94 = .ok (.iload_n 2, 1) := by decide +kernel
theorem dX7_findOff_95 : decode cX7_findOff 95 = .ok (.bipush 11, 2) := by decide +kernel
theorem dX7_findOff_97 : decode cX7_findOff 97 = .ok (.irem, 1) := by decide +kernel
theorem dX7_findOff_98 : decode cX7_findOff 98 = .ok (.iadd, 1) := by decide +kernel
theorem dX7_findOff_99 : decode cX7_findOff 99 = .ok (.iaload, 1) := by decide +kernel
theorem dX7_findOff_100 : decode cX7_findOff 100 = .ok (.iadd, 1) := by decide +kernel
theorem dX7_findOff_101 : decode cX7_findOff 101 = .ok (.istore_n 3, 1) := by decide +kernel
theorem dX7_findOff_102 : decode cX7_findOff 102 = .ok (.aload_n 0, 1) := by decide +kernel
theorem dX7_findOff_103 : decode cX7_findOff 103 = .ok (.getfield 46, 3) := by decide +kernel
theorem dX7_findOff_106 : decode cX7_findOff 106 = .ok (.iload_n 2, 1) := by decide +kernel
theorem dX7_findOff_107 : decode cX7_findOff 107 = .ok (.iload_n 3, 1) := by decide +kernel
theorem dX7_findOff_108 : decode cX7_findOff 108 = .ok (.aload_n 0, 1) := by decide +kernel
theorem dX7_findOff_109 : decode cX7_findOff 109 = .ok (.getfield 46, 3) := by decide +kernel
theorem dX7_findOff_112 : decode cX7_findOff 112 = .ok (.iload_n 2, 1) := by decide +kernel
theorem dX7_findOff_113 : decode cX7_findOff 113 = .ok (.iaload, 1) := by decide +kernel
theorem dX7_findOff_114 : decode cX7_findOff 114 = .ok (.if_icmp .ge 7, 3) := by decide +kernel
theorem dX7_findOff_117 : decode cX7_findOff 117 = .ok (.iload_n 3, 1) := by decide +kernel
theorem dX7_findOff_118 : decode cX7_findOff 118 = .ok (.goto 9, 3) := by decide +kernel
theorem dX7_findOff_121 : decode cX7_findOff 121 = .ok (.aload_n 0, 1) := by decide +kernel
theorem dX7_findOff_122 : decode cX7_findOff 122 = .ok (.getfield 46, 3) := by decide +kernel
theorem dX7_findOff_125 : decode cX7_findOff 125 = .ok (.iload_n 2, 1) := by decide +kernel
theorem dX7_findOff_126 : decode cX7_findOff 126 = .ok (.iaload, 1) := by decide +kernel
theorem dX7_findOff_127 : decode cX7_findOff 127 = .ok (.iastore, 1) := by decide +kernel
theorem dX7_findOff_128 : decode cX7_findOff 128 = .ok (.iinc 2 1, 3) := by decide +kernel
theorem dX7_findOff_131 : decode cX7_findOff 131 = .ok (.goto (-65), 3) := by decide +kernel
theorem dX7_findOff_134 : decode cX7_findOff 134 = .ok (.iinc 1 1, 3) := by decide +kernel
theorem dX7_findOff_137 : decode cX7_findOff 137 = .ok (.goto (-79), 3) := by decide +kernel
theorem dX7_findOff_140 : decode cX7_findOff 140 = .ok (.return_, 1) := by decide +kernel
set_option maxRecDepth 20000 in
theorem ggX7_near_X7_isPlace : GoodIn wsX7_near wsX7_isPlace := goodIn_r _ [6, 7, 8, 9, 5, 10] (by decide +kernel) (by decide +kernel)
set_option maxRecDepth 20000 in
theorem gX7_near_X7_isPlace : GoodIn wsX7_near (va_wsS RX7 84 yX7_isPlace wsX7_isPlace) := goodIn_app (goodIn_of _ (by decide +kernel)) ggX7_near_X7_isPlace
set_option maxRecDepth 20000 in
theorem ggX7_near_X7_in : GoodIn wsX7_near wsX7_in := goodIn_r _ [10] (by decide +kernel) (by decide +kernel)
set_option maxRecDepth 20000 in
theorem gX7_near_X7_in : GoodIn wsX7_near (va_wsS RX7 78 yX7_in wsX7_in) := goodIn_app (goodIn_of _ (by decide +kernel)) ggX7_near_X7_in
set_option maxRecDepth 20000 in
theorem ggX7_near_X7_findOff : GoodIn wsX7_near wsX7_findOff := goodIn_r _ [14, 1, 2, 15, 16, 17, 18, 19, 20, 21, 22, 23, 24, 25, 26, 27, 28, 29, 30, 31, 32, 33, 34, 35, 36, 37, 38, 39, 40, 41, 42, 43, 44, 45, 46, 47, 48] (by decide +kernel) (by decide +kernel)
set_option maxRecDepth 20000 in
theorem gX7_near_X7_findOff : GoodIn wsX7_near (wsV RX7 210 RX7 yX7_findOff wsX7_findOff) := goodIn_app (goodIn_of _ (by decide +kernel)) ggX7_near_X7_findOff
theorem dX7_near_0 : decode cX7_near 0 = .ok (.iload_n 1, 1) := by decide +kernel
theorem dX7_near_1 : decode cX7_near 1 = .ok (.invokestatic 84, 3) := by decide +kernel
theorem dX7_near_4 : decode cX7_near 4 = .ok (.ifCond .eq 10, 3) := by decide +kernel
theorem dX7_near_7 : decode cX7_near 7 = .ok (.iload_n 2, 1) := by decide +kernel
theorem dX7_near_8 : decode cX7_near 8 = .ok (.invokestatic 84, 3) := by decide +kernel
theorem dX7_near_11 : decode cX7_near 11 = .ok (.ifCond .ne 5, 3) := by decide +kernel
theorem dX7_near_14 : decode cX7_near 14 = .ok (.iconst (-1), 1) := by decide +kernel
theorem dX7_near_15 : decode cX7_near 15 = .ok (.ireturn, 1) := by decide +kernel
theorem dX7_near_16 : decode cX7_near 16 = .ok (.iload_n 3, 1) := by decide +kernel
theorem dX7_near_17 : decode cX7_near 17 = .ok (.i2l, 1) := by decide +kernel
theorem dX7_near_18 : decode cX7_near 18 = .ok (.lconst 0, 1) := by decide +kernel
theorem dX7_near_19 : decode cX7_near 19 = .ok (.lconst 1, 1) := by decide +kernel
theorem dX7_near_20 : decode cX7_near 20 = .ok (.invokestatic 78, 3) := by decide +kernel
theorem dX7_near_23 : decode cX7_near 23 = .ok (.ifCond .ne 6, 3) := by decide +kernel
theorem dX7_near_26 : decode cX7_near 26 = .ok (.bipush (-2), 2) := by decide +kernel
theorem dX7_near_28 : decode cX7_near 28 = .ok (.ireturn, 1) := by decide +kernel
theorem dX7_near_29 : decode cX7_near 29 = .ok (.aload_n 0, 1) := by decide +kernel
theorem dX7_near_30 : decode cX7_near 30 = .ok (.invokevirtual 210, 3) := by decide +kernel
theorem dX7_near_33 : decode cX7_near 33 = .ok (.aload_n 0, 1) := by decide +kernel
theorem dX7_near_34 : decode cX7_near 34 = .ok (.getfield 46, 3) := by decide +kernel
theorem dX7_near_37 : decode cX7_near 37 = .ok (.bipush 11, 2) := by decide +kernel
theorem dX7_near_39 : decode cX7_near 39 = .ok (.iload_n 1, 1) := by decide +kernel
theorem dX7_near_40 : decode cX7_near 40 = .ok (.imul, 1) := by decide +kernel
theorem dX7_near_41 : decode cX7_near 41 = .ok (.iload_n 2, 1) := by decide +kernel
theorem dX7_near_42 : decode cX7_near 42 = .ok (.iadd, 1) := by decide +kernel
theorem dX7_near_43 : decode cX7_near 43 = .ok (.iaload, 1) := by decide +kernel
theorem dX7_near_44 : decode cX7_near 44 = .ok (.istore 4, 2) := by decide +kernel
theorem dX7_near_46 : decode cX7_near 46 = .ok (.iload 4, 2) := by decide +kernel
theorem dX7_near_48 : decode cX7_near 48 = .ok (.sipush 1000, 3) := by decide +kernel
theorem dX7_near_51 : decode cX7_near 51 = .ok (.if_icmp .lt 6, 3) := by decide +kernel
theorem dX7_near_54 : decode cX7_near 54 = .ok (.bipush (-6), 2) := by decide +kernel
theorem dX7_near_56 : decode cX7_near 56 = .ok (.ireturn, 1) := by decide +kernel
theorem dX7_near_57 : decode cX7_near 57 = .ok (.iload_n 3, 1) := by decide +kernel
theorem dX7_near_58 : decode cX7_near 58 = .ok (.ifCond .ne 6, 3) := by decide +kernel
theorem dX7_near_61 : decode cX7_near 61 = .ok (.iload 4, 2) := by decide +kernel
theorem dX7_near_63 : decode cX7_near 63 = .ok (.ireturn, 1) := by decide +kernel
theorem dX7_near_64 : decode cX7_near 64 = .ok (.bipush (-6), 2) := by decide +kernel
theorem dX7_near_66 : decode cX7_near 66 = .ok (.istore 5, 2) := by decide +kernel
theorem dX7_near_68 : decode cX7_near 68 = .ok (.bipush 10, 2) := by decide +kernel
theorem dX7_near_70 : decode cX7_near 70 = .ok (.istore 6, 2) := by decide +kernel
theorem dX7_near_72 : decode cX7_near 72 = .ok (.iload 6, 2) := by decide +kernel
theorem dX7_near_74 : decode cX7_near 74 = .ok (.ifCond .lt 62, 3) := by decide +kernel
theorem dX7_near_77 : decode cX7_near 77 = .ok (.iload_n 1, 1) := by decide +kernel
theorem dX7_near_78 : decode cX7_near 78 = .ok (.iload_n 2, 1) := by decide +kernel
theorem dX7_near_79 : decode cX7_near 79 = .ok (.if_icmp .eq 57, 3) := by decide +kernel
theorem dX7_near_82 : decode cX7_near 82 = .ok (.aload_n 0, 1) := by decide +kernel
theorem dX7_near_83 : decode cX7_near 83 = .ok (.getfield 7, 3) := by decide +kernel
theorem dX7_near_86 : decode cX7_near 86 = .ok (.bipush 11, 2) := by decide +kernel
theorem dX7_near_88 : decode cX7_near 88 = .ok (.iload_n 1, 1) := by decide +kernel
theorem dX7_near_89 : decode cX7_near 89 = .ok (.imul, 1) := by decide +kernel
theorem dX7_near_90 : decode cX7_near 90 = .ok (.iload 6, 2) := by decide +kernel
theorem dX7_near_92 : decode cX7_near 92 = .ok (.iadd, 1) := by decide +kernel
theorem dX7_near_93 : decode cX7_near 93 = .ok (.iaload, 1) := by decide +kernel
theorem dX7_near_94 : decode cX7_near 94 = .ok (.istore 7, 2) := by decide +kernel
theorem dX7_near_96 : decode cX7_near 96 = .ok (.iload 7, 2) := by decide +kernel
theorem dX7_near_98 : decode cX7_near 98 = .ok (.ifCond .le 28, 3) := by decide +kernel
theorem dX7_near_101 : decode cX7_near 101 = .ok (.iload 7, 2) := by decide +kernel
theorem dX7_near_103 : decode cX7_near 103 = .ok (.aload_n 0, 1) := by decide +kernel
theorem dX7_near_104 : decode cX7_near 104 = .ok (.getfield 46, 3) := by decide +kernel
theorem dX7_near_107 : decode cX7_near 107 = .ok (.bipush 11, 2) := by decide +kernel
theorem dX7_near_109 : decode cX7_near 109 = .ok (.iload 6, 2) := by decide +kernel
theorem dX7_near_111 : decode cX7_near 111 = .ok (.imul, 1) := by decide +kernel
theorem dX7_near_112 : decode cX7_near 112 = .ok (.iload_n 2, 1) := by decide +kernel
theorem dX7_near_113 : decode cX7_near 113 = .ok (.iadd, 1) := by decide +kernel
theorem dX7_near_114 : decode cX7_near 114 = .ok (.iaload, 1) := by decide +kernel
theorem dX7_near_115 : decode cX7_near 115 = .ok (.iadd, 1) := by decide +kernel
theorem dX7_near_116 : decode cX7_near 116 = .ok (.iload 4, 2) := by decide +kernel
theorem dX7_near_118 : decode cX7_near 118 = .ok (.if_icmp .ne 8, 3) := by decide +kernel
theorem dX7_near_121 : decode cX7_near 121 = .ok (.iload 6, 2) := by decide +kernel
theorem dX7_near_123 : decode cX7_near 123 = .ok (.goto 5, 3) := by decide +kernel
theorem dX7_near_126 : decode cX7_near 126 = .ok (.iload 5, 2) := by decide +kernel
theorem dX7_near_128 : decode cX7_near 128 = .ok (.istore 5, 2) := by decide +kernel
theorem dX7_near_130 : decode cX7_near 130 = .ok (.iinc 6 (-1), 3) := by decide +kernel
theorem dX7_near_133 : decode cX7_near 133 = .ok (.goto (-61), 3) := by decide +kernel
theorem dX7_near_136 : decode cX7_near 136 = .ok (.iload 5, 2) := by decide +kernel
theorem dX7_near_138 : decode cX7_near 138 = .ok (.ireturn, 1) := by decide +kernel
set_option maxRecDepth 20000 in
theorem ggX7_behindBed_X7_cooled : GoodIn wsX7_behindBed wsX7_cooled := goodIn_r _ [6] (by decide +kernel) (by decide +kernel)
set_option maxRecDepth 20000 in
theorem gX7_behindBed_X7_cooled : GoodIn wsX7_behindBed (va_wsS RX7 133 yX7_cooled wsX7_cooled) := goodIn_app (goodIn_of _ (by decide +kernel)) ggX7_behindBed_X7_cooled
theorem dX7_behindBed_0 : decode cX7_behindBed 0 = .ok (.aload_n 0, 1) := by decide +kernel
theorem dX7_behindBed_1 : decode cX7_behindBed 1 = .ok (.getfield 16, 3) := by decide +kernel
theorem dX7_behindBed_4 : decode cX7_behindBed 4 = .ok (.iload_n 2, 1) := by decide +kernel
theorem dX7_behindBed_5 : decode cX7_behindBed 5 = .ok (.iaload, 1) := by decide +kernel
theorem dX7_behindBed_6 : decode cX7_behindBed 6 = .ok (.ifCond .ne 24, 3) := by decide +kernel
theorem dX7_behindBed_9 : decode cX7_behindBed 9 = .ok (.iload_n 1, 1) := by decide +kernel
theorem dX7_behindBed_10 : decode cX7_behindBed 10 = .ok (.bipush 9, 2) := by decide +kernel
theorem dX7_behindBed_12 : decode cX7_behindBed 12 = .ok (.aload_n 0, 1) := by decide +kernel
theorem dX7_behindBed_13 : decode cX7_behindBed 13 = .ok (.getfield 13, 3) := by decide +kernel
theorem dX7_behindBed_16 : decode cX7_behindBed 16 = .ok (.iload_n 2, 1) := by decide +kernel
theorem dX7_behindBed_17 : decode cX7_behindBed 17 = .ok (.iaload, 1) := by decide +kernel
theorem dX7_behindBed_18 : decode cX7_behindBed 18 = .ok (.imul, 1) := by decide +kernel
theorem dX7_behindBed_19 : decode cX7_behindBed 19 = .ok (.if_icmp .le 11, 3) := by decide +kernel
theorem dX7_behindBed_22 : decode cX7_behindBed 22 = .ok (.iload_n 1, 1) := by decide +kernel
theorem dX7_behindBed_23 : decode cX7_behindBed 23 = .ok (.iconst 5, 1) := by decide +kernel
theorem dX7_behindBed_24 : decode cX7_behindBed 24 = .ok (.invokestatic 133, 3) := by decide +kernel
theorem dX7_behindBed_27 : decode cX7_behindBed 27 = .ok (.goto 5, 3) := by decide +kernel
theorem dX7_behindBed_30 : decode cX7_behindBed 30 = .ok (.bipush (-6), 2) := by decide +kernel
theorem dX7_behindBed_32 : decode cX7_behindBed 32 = .ok (.ireturn, 1) := by decide +kernel
set_option maxRecDepth 20000 in
theorem ggX7_hottest_X7_cooled : GoodIn wsX7_hottest wsX7_cooled := goodIn_r _ [6] (by decide +kernel) (by decide +kernel)
set_option maxRecDepth 20000 in
theorem gX7_hottest_X7_cooled : GoodIn wsX7_hottest (va_wsS RX7 133 yX7_cooled wsX7_cooled) := goodIn_app (goodIn_of _ (by decide +kernel)) ggX7_hottest_X7_cooled
set_option maxRecDepth 20000 in
theorem ggX7_hottest_X7_behindBed : GoodIn wsX7_hottest wsX7_behindBed := goodIn_r _ [10, 11, 12, 3, 4, 5, 6, 13, 14, 15, 16, 17, 18, 19, 20, 21, 22, 23, 24, 25, 26, 27, 28, 29, 30, 31, 32, 33, 34, 35, 36, 37, 38, 39, 40, 41, 42, 43, 44, 45, 46] (by decide +kernel) (by decide +kernel)
set_option maxRecDepth 20000 in
theorem gX7_hottest_X7_behindBed : GoodIn wsX7_hottest (wsV RX7 213 RX7 yX7_behindBed wsX7_behindBed) := goodIn_app (goodIn_of _ (by decide +kernel)) ggX7_hottest_X7_behindBed
theorem dX7_hottest_0 : decode cX7_hottest 0 = .ok (.iload_n 1, 1) := by decide +kernel
theorem dX7_hottest_1 : decode cX7_hottest 1 = .ok (.iconst 1, 1) := by decide +kernel
theorem dX7_hottest_2 : decode cX7_hottest 2 = .ok (.iload_n 2, 1) := by decide +kernel
theorem dX7_hottest_3 : decode cX7_hottest 3 = .ok (.ishl, 1) := by decide +kernel
theorem dX7_hottest_4 : decode cX7_hottest 4 = .ok (.iconst (-1), 1) := by decide +kernel
theorem dX7_hottest_5 : decode cX7_hottest 5 = .ok (.ixor, 1) := by decide +kernel
theorem dX7_hottest_6 : decode cX7_hottest 6 = .ok (.iand, 1) := by decide +kernel
theorem dX7_hottest_7 : decode cX7_hottest 7 = .ok (.istore_n 3, 1) := by decide +kernel
theorem dX7_hottest_8 : decode cX7_hottest 8 = .ok (.iload_n 3, 1) := by decide +kernel
theorem dX7_hottest_9 : decode cX7_hottest 9 = .ok (.ifCond .ne 6, 3) := by decide +kernel
theorem dX7_hottest_12 : decode cX7_hottest 12 = .ok (.bipush (-6), 2) := by decide +kernel
theorem dX7_hottest_14 : decode cX7_hottest 14 = .ok (.ireturn, 1) := by decide +kernel
theorem dX7_hottest_15 : decode cX7_hottest 15 = .ok (.bipush (-6), 2) := by decide +kernel
theorem dX7_hottest_17 : decode cX7_hottest 17 = .ok (.istore 4, 2) := by decide +kernel
theorem dX7_hottest_19 : decode cX7_hottest 19 = .ok (.iconst 0, 1) := by decide +kernel
theorem dX7_hottest_20 : decode cX7_hottest 20 = .ok (.istore 5, 2) := by decide +kernel
theorem dX7_hottest_22 : decode cX7_hottest 22 = .ok (.iload 5, 2) := by decide +kernel
theorem dX7_hottest_24 : decode cX7_hottest 24 = .ok (.bipush 10, 2) := by decide +kernel
theorem dX7_hottest_26 : decode cX7_hottest 26 = .ok (.if_icmp .ge 88, 3) := by decide +kernel
theorem dX7_hottest_29 : decode cX7_hottest 29 = .ok (.iload_n 3, 1) := by decide +kernel
theorem dX7_hottest_30 : decode cX7_hottest 30 = .ok (.iload 5, 2) := by decide +kernel
theorem dX7_hottest_32 : decode cX7_hottest 32 = .ok (.ishr, 1) := by decide +kernel
theorem dX7_hottest_33 : decode cX7_hottest 33 = .ok (.iconst 1, 1) := by decide +kernel
theorem dX7_hottest_34 : decode cX7_hottest 34 = .ok (.iand, 1) := by decide +kernel
theorem dX7_hottest_35 : decode cX7_hottest 35 = .ok (.iconst 1, 1) := by decide +kernel
theorem dX7_hottest_36 : decode cX7_hottest 36 = .ok (.if_icmp .ne 18, 3) := by decide +kernel
theorem dX7_hottest_39 : decode cX7_hottest 39 = .ok (.aload_n 0, 1) := by decide +kernel
theorem dX7_hottest_40 : decode cX7_hottest 40 = .ok (.getfield 49, 3) := by decide +kernel
theorem dX7_hottest_43 : decode cX7_hottest 43 = .ok (.bipush 10, 2) := by decide +kernel
theorem dX7_hottest_45 : decode cX7_hottest 45 = .ok (.iload_n 3, 1) := by decide +kernel
theorem dX7_hottest_46 : decode cX7_hottest 46 = .ok (.imul, 1) := by decide +kernel
theorem dX7_hottest_47 : decode cX7_hottest 47 = .ok (.iload 5, 2) := by decide +kernel
theorem dX7_hottest_49 : decode cX7_hottest 49 = .ok (.iadd, 1) := by decide +kernel
theorem dX7_hottest_50 : decode cX7_hottest 50 = .ok (.iaload, 1) := by decide +kernel
theorem dX7_hottest_51 : decode cX7_hottest 51 = .ok (.goto 5, 3) := by decide +kernel
theorem dX7_hottest_54 : decode cX7_hottest 54 = .ok (.bipush (-6), 2) := by decide +kernel
theorem dX7_hottest_56 : decode cX7_hottest 56 = .ok (.istore 6, 2) := by decide +kernel
theorem dX7_hottest_58 : decode cX7_hottest 58 = .ok (.iload 6, 2) := by decide +kernel
theorem dX7_hottest_60 : decode cX7_hottest 60 = .ok (.ifCond .ge 8, 3) := by decide +kernel
theorem dX7_hottest_63 : decode cX7_hottest 63 = .ok (.bipush (-6), 2) := by decide +kernel
theorem dX7_hottest_65 : decode cX7_hottest 65 = .ok (.goto 25, 3) := by decide +kernel
theorem dX7_hottest_68 : decode cX7_hottest 68 = .ok (.aload_n 0, 1) := by decide +kernel
theorem dX7_hottest_69 : decode cX7_hottest 69 = .ok (.iload 6, 2) := by decide +kernel
theorem dX7_hottest_71 : decode cX7_hottest 71 = .ok (.aload_n 0, 1) := by decide +kernel
theorem dX7_hottest_72 : decode cX7_hottest 72 = .ok (.getfield 46, 3) := by decide +kernel
theorem dX7_hottest_75 : decode cX7_hottest 75 = .ok (.bipush 11, 2) := by decide +kernel
theorem dX7_hottest_77 : decode cX7_hottest 77 = .ok (.iload 5, 2) := by decide +kernel
theorem dX7_hottest_79 : decode cX7_hottest 79 = .ok (.imul, 1) := by decide +kernel
theorem dX7_hottest_80 : decode cX7_hottest 80 = .ok (.iload_n 2, 1) := by decide +kernel
theorem dX7_hottest_81 : decode cX7_hottest 81 = .ok (.iadd, 1) := by decide +kernel
theorem dX7_hottest_82 : decode cX7_hottest 82 = .ok (.iaload, 1) := by decide +kernel
theorem dX7_hottest_83 : decode cX7_hottest 83 = .ok (.invokestatic 133, 3) := by decide +kernel
theorem dX7_hottest_86 : decode cX7_hottest 86 = .ok (.iload_n 2, 1) := by decide +kernel
theorem dX7_hottest_87 : decode cX7_hottest 87 = .ok (.invokevirtual 213, 3) := by decide +kernel
theorem dX7_hottest_90 : decode cX7_hottest 90 = .ok (.istore 7, 2) := by decide +kernel
theorem dX7_hottest_92 : decode cX7_hottest 92 = .ok (.iload 7, 2) := by decide +kernel
theorem dX7_hottest_94 : decode cX7_hottest 94 = .ok (.iload 4, 2) := by decide +kernel
theorem dX7_hottest_96 : decode cX7_hottest 96 = .ok (.if_icmp .le 8, 3) := by decide +kernel
theorem dX7_hottest_99 : decode cX7_hottest 99 = .ok (.iload 7, 2) := by decide +kernel
theorem dX7_hottest_101 : decode cX7_hottest 101 = .ok (.goto 5, 3) := by decide +kernel
theorem dX7_hottest_104 : decode cX7_hottest 104 = .ok (.iload 4, 2) := by decide +kernel
theorem dX7_hottest_106 : decode cX7_hottest 106 = .ok (.istore 4, 2) := by decide +kernel
theorem dX7_hottest_108 : decode cX7_hottest 108 = .ok (.iinc 5 1, 3) := by decide +kernel
theorem dX7_hottest_111 : decode cX7_hottest 111 = .ok (.goto (-89), 3) := by decide +kernel
theorem dX7_hottest_114 : decode cX7_hottest 114 = .ok (.iload 4, 2) := by decide +kernel
theorem dX7_hottest_116 : decode cX7_hottest 116 = .ok (.ireturn, 1) := by decide +kernel
set_option maxRecDepth 20000 in
theorem ggX7_findHot_X7_cooled : GoodIn wsX7_findHot wsX7_cooled := goodIn_r _ [6] (by decide +kernel) (by decide +kernel)
set_option maxRecDepth 20000 in
theorem gX7_findHot_X7_cooled : GoodIn wsX7_findHot (va_wsS RX7 133 yX7_cooled wsX7_cooled) := goodIn_app (goodIn_of _ (by decide +kernel)) ggX7_findHot_X7_cooled
set_option maxRecDepth 20000 in
theorem ggX7_findHot_X7_behindBed : GoodIn wsX7_findHot wsX7_behindBed := goodIn_r _ [10, 11, 12, 3, 4, 5, 6, 17, 18, 19, 20, 21, 22, 23, 24, 25, 26, 27, 28, 29, 30, 31, 32, 33, 34, 35, 36, 37, 38, 39, 40, 41, 42, 43, 44, 45, 46, 47, 48, 49, 50] (by decide +kernel) (by decide +kernel)
set_option maxRecDepth 20000 in
theorem gX7_findHot_X7_behindBed : GoodIn wsX7_findHot (wsV RX7 213 RX7 yX7_behindBed wsX7_behindBed) := goodIn_app (goodIn_of _ (by decide +kernel)) ggX7_findHot_X7_behindBed
set_option maxRecDepth 20000 in
theorem ggX7_findHot_X7_hottest : GoodIn wsX7_findHot wsX7_hottest := goodIn_r _ [16, 2, 1, 3, 4, 5, 6, 7, 8, 9, 10, 11, 12, 17, 18, 19, 20, 21, 22, 23, 24, 25, 26, 27, 28, 29, 30, 31, 32, 33, 34, 35, 36, 37, 38, 39, 40, 41, 42, 43, 44, 45, 46, 47, 48, 49, 50] (by decide +kernel) (by decide +kernel)
set_option maxRecDepth 20000 in
theorem gX7_findHot_X7_hottest : GoodIn wsX7_findHot (wsV RX7 216 RX7 yX7_hottest wsX7_hottest) := goodIn_app (goodIn_of _ (by decide +kernel)) ggX7_findHot_X7_hottest
theorem dX7_findHot_0 : decode cX7_findHot 0 = .ok (.iconst 0, 1) := by decide +kernel
theorem dX7_findHot_1 : decode cX7_findHot 1 = .ok (.istore_n 3, 1) := by decide +kernel
theorem dX7_findHot_2 : decode cX7_findHot 2 = .ok (.iconst 0, 1) := by decide +kernel
theorem dX7_findHot_3 : decode cX7_findHot 3 = .ok (.istore 4, 2) := by decide +kernel
theorem dX7_findHot_5 : decode cX7_findHot 5 = .ok (.iload 4, 2) := by decide +kernel
theorem dX7_findHot_7 : decode cX7_findHot 7 = .ok (.bipush 10, 2) := by decide +kernel
theorem dX7_findHot_9 : decode cX7_findHot 9 = .ok (.if_icmp .ge 117, 3) := by decide +kernel
theorem dX7_findHot_12 : decode cX7_findHot 12 = .ok (.iload_n 1, 1) := by decide +kernel
theorem dX7_findHot_13 : decode cX7_findHot 13 = .ok (.iload 4, 2) := by decide +kernel
theorem dX7_findHot_15 : decode cX7_findHot 15 = .ok (.ishr, 1) := by decide +kernel
theorem dX7_findHot_16 : decode cX7_findHot 16 = .ok (.iconst 1, 1) := by decide +kernel
theorem dX7_findHot_17 : decode cX7_findHot 17 = .ok (.iand, 1) := by decide +kernel
theorem dX7_findHot_18 : decode cX7_findHot 18 = .ok (.iconst 1, 1) := by decide +kernel
theorem dX7_findHot_19 : decode cX7_findHot 19 = .ok (.if_icmp .ne 7, 3) := by decide +kernel
theorem dX7_findHot_22 : decode cX7_findHot 22 = .ok (.iconst 1, 1) := by decide +kernel
theorem dX7_findHot_23 : decode cX7_findHot 23 = .ok (.goto 4, 3) := by decide +kernel
theorem dX7_findHot_26 : decode cX7_findHot 26 = .ok (.iconst 0, 1) := by decide +kernel
theorem dX7_findHot_27 : decode cX7_findHot 27 = .ok (.istore 5, 2) := by decide +kernel
theorem dX7_findHot_29 : decode cX7_findHot 29 = .ok (.iload_n 1, 1) := by decide +kernel
theorem dX7_findHot_30 : decode cX7_findHot 30 = .ok (.iconst 1, 1) := by decide +kernel
theorem dX7_findHot_31 : decode cX7_findHot 31 = .ok (.iload 4, 2) := by decide +kernel
theorem dX7_findHot_33 : decode cX7_findHot 33 = .ok (.ishl, 1) := by decide +kernel
theorem dX7_findHot_34 : decode cX7_findHot 34 = .ok (.if_icmp .ne 7, 3) := by decide +kernel
theorem dX7_findHot_37 : decode cX7_findHot 37 = .ok (.iconst 1, 1) := by decide +kernel
theorem dX7_findHot_38 : decode cX7_findHot 38 = .ok (.goto 4, 3) := by decide +kernel
theorem dX7_findHot_41 : decode cX7_findHot 41 = .ok (.iconst 0, 1) := by decide +kernel
theorem dX7_findHot_42 : decode cX7_findHot 42 = .ok (.istore 6, 2) := by decide +kernel
theorem dX7_findHot_44 : decode cX7_findHot 44 = .ok (.iload 6, 2) := by decide +kernel
theorem dX7_findHot_46 : decode cX7_findHot 46 = .ok (.ifCond .eq 26, 3) := by decide +kernel
theorem dX7_findHot_49 : decode cX7_findHot 49 = .ok (.aload_n 0, 1) := by decide +kernel
theorem dX7_findHot_50 : decode cX7_findHot 50 = .ok (.iload_n 2, 1) := by decide +kernel
theorem dX7_findHot_51 : decode cX7_findHot 51 = .ok (.aload_n 0, 1) := by decide +kernel
theorem dX7_findHot_52 : decode cX7_findHot 52 = .ok (.getfield 46, 3) := by decide +kernel
theorem dX7_findHot_55 : decode cX7_findHot 55 = .ok (.bipush 110, 2) := by decide +kernel
theorem dX7_findHot_57 : decode cX7_findHot 57 = .ok (.iload 4, 2) := by decide +kernel
theorem dX7_findHot_59 : decode cX7_findHot 59 = .ok (.iadd, 1) := by decide +kernel
theorem dX7_findHot_60 : decode cX7_findHot 60 = .ok (.iaload, 1) := by decide +kernel
theorem dX7_findHot_61 : decode cX7_findHot 61 = .ok (.invokestatic 133, 3) := by decide +kernel
theorem dX7_findHot_64 : decode cX7_findHot 64 = .ok (.iload 4, 2) := by decide +kernel
theorem dX7_findHot_66 : decode cX7_findHot 66 = .ok (.invokevirtual 213, 3) := by decide +kernel
theorem dX7_findHot_69 : decode cX7_findHot 69 = .ok (.goto 20, 3) := by decide +kernel
theorem dX7_findHot_72 : decode cX7_findHot 72 = .ok (.iload 5, 2) := by decide +kernel
theorem dX7_findHot_74 : decode cX7_findHot 74 = .ok (.ifCond .eq 13, 3) := by decide +kernel
theorem dX7_findHot_77 : decode cX7_findHot 77 = .ok (.aload_n 0, 1) := by decide +kernel
theorem dX7_findHot_78 : decode cX7_findHot 78 = .ok (.iload_n 1, 1) := by decide +kernel
theorem dX7_findHot_79 : decode cX7_findHot 79 = .ok (.iload 4, 2) := by decide +kernel
theorem dX7_findHot_81 : decode cX7_findHot 81 = .ok (.invokevirtual 216, 3) := by decide +kernel
theorem dX7_findHot_84 : decode cX7_findHot 84 = .ok (.goto 5, 3) := by decide +kernel
theorem dX7_findHot_87 : decode cX7_findHot 87 = .ok (.bipush (-6), 2) := by decide +kernel
theorem dX7_findHot_89 : decode cX7_findHot 89 = .ok (.istore 7, 2) := by decide +kernel
theorem dX7_findHot_91 : decode cX7_findHot 91 = .ok (.aload_n 0, 1) := by decide +kernel
theorem dX7_findHot_92 : decode cX7_findHot 92 = .ok (.getfield 49, 3) := by decide +kernel
theorem dX7_findHot_95 : decode cX7_findHot 95 = .ok (.bipush 10, 2) := by decide +kernel
theorem dX7_findHot_97 : decode cX7_findHot 97 = .ok (.iload_n 1, 1) := by decide +kernel
theorem dX7_findHot_98 : decode cX7_findHot 98 = .ok (.imul, 1) := by decide +kernel
theorem dX7_findHot_99 : decode cX7_findHot 99 = .ok (.iload 4, 2) := by decide +kernel
theorem dX7_findHot_101 : decode cX7_findHot 101 = .ok (.iadd, 1) := by decide +kernel
theorem dX7_findHot_102 : decode cX7_findHot 102 = .ok (.iload 7, 2) := by decide +kernel
theorem dX7_findHot_104 : decode cX7_findHot 104 = .ok (.iastore, 1) := by decide +kernel
theorem dX7_findHot_105 : decode cX7_findHot 105 = .ok (.iload_n 3, 1) := by decide +kernel
theorem dX7_findHot_106 : decode cX7_findHot 106 = .ok (.ifCond .ne 8, 3) := by decide +kernel
theorem dX7_findHot_109 : decode cX7_findHot 109 = .ok (.iload 7, 2) := by decide +kernel
theorem dX7_findHot_111 : decode cX7_findHot 111 = .ok (.ifCond .lt 7, 3) := by decide +kernel
theorem dX7_findHot_114 : decode cX7_findHot 114 = .ok (.iconst 1, 1) := by decide +kernel
theorem dX7_findHot_115 : decode cX7_findHot 115 = .ok (.goto 4, 3) := by decide +kernel
theorem dX7_findHot_118 : decode cX7_findHot 118 = .ok (.iconst 0, 1) := by decide +kernel
theorem dX7_findHot_119 : decode cX7_findHot 119 = .ok (.istore_n 3, 1) := by decide +kernel
theorem dX7_findHot_120 : decode cX7_findHot 120 = .ok (.iinc 4 1, 3) := by decide +kernel
theorem dX7_findHot_123 : decode cX7_findHot 123 = .ok (.goto (-118), 3) := by decide +kernel
theorem dX7_findHot_126 : decode cX7_findHot 126 = .ok (.iload_n 3, 1) := by decide +kernel
theorem dX7_findHot_127 : decode cX7_findHot 127 = .ok (.ireturn, 1) := by decide +kernel
set_option maxRecDepth 20000 in
theorem ggX7_round_X7_in : GoodIn wsX7_round wsX7_in := goodIn_r _ [5] (by decide +kernel) (by decide +kernel)
set_option maxRecDepth 20000 in
theorem gX7_round_X7_in : GoodIn wsX7_round (va_wsS RX7 78 yX7_in wsX7_in) := goodIn_app (goodIn_of _ (by decide +kernel)) ggX7_round_X7_in
set_option maxRecDepth 20000 in
theorem ggX7_round_X7_findOff : GoodIn wsX7_round wsX7_findOff := goodIn_r _ [9, 10, 11, 33, 34, 35, 36, 37, 38, 39, 40, 41, 42, 43, 44, 45, 46, 47, 48, 49, 50, 51, 52, 53, 54, 55, 56, 57, 58, 59, 60, 61, 62, 63, 64, 65, 66] (by decide +kernel) (by decide +kernel)
set_option maxRecDepth 20000 in
theorem gX7_round_X7_findOff : GoodIn wsX7_round (wsV RX7 210 RX7 yX7_findOff wsX7_findOff) := goodIn_app (goodIn_of _ (by decide +kernel)) ggX7_round_X7_findOff
set_option maxRecDepth 20000 in
theorem ggX7_round_X7_findHot : GoodIn wsX7_round wsX7_findHot := goodIn_r _ [15, 10, 16, 17, 18, 4, 19, 20, 21, 22, 23, 24, 25, 26, 27, 28, 29, 33, 34, 35, 36, 37, 38, 39, 40, 41, 42, 43, 44, 45, 46, 47, 48, 49, 50, 51, 52, 53, 54, 55, 56, 57, 58, 59, 60, 61, 62, 63, 64, 65, 66] (by decide +kernel) (by decide +kernel)
set_option maxRecDepth 20000 in
theorem gX7_round_X7_findHot : GoodIn wsX7_round (wsV RX7 221 RX7 yX7_findHot wsX7_findHot) := goodIn_app (goodIn_of _ (by decide +kernel)) ggX7_round_X7_findHot
set_option maxRecDepth 20000 in
theorem ggX7_round_X7_ones : GoodIn wsX7_round wsX7_ones := goodIn_r _ [32] (by decide +kernel) (by decide +kernel)
set_option maxRecDepth 20000 in
theorem gX7_round_X7_ones : GoodIn wsX7_round (va_wsS RX7 225 yX7_ones wsX7_ones) := goodIn_app (goodIn_of _ (by decide +kernel)) ggX7_round_X7_ones
theorem dX7_round_0 : decode cX7_round 0 = .ok (.iload_n 1, 1) := by decide +kernel
theorem dX7_round_1 : decode cX7_round 1 = .ok (.i2l, 1) := by decide +kernel
theorem dX7_round_2 : decode cX7_round 2 = .ok (.lconst 0, 1) := by decide +kernel
theorem dX7_round_3 : decode cX7_round 3 = .ok (.ldc2_w 219, 3) := by decide +kernel
theorem dX7_round_6 : decode cX7_round 6 = .ok (.invokestatic 78, 3) := by decide +kernel
theorem dX7_round_9 : decode cX7_round 9 = .ok (.ifCond .eq 13, 3) := by decide +kernel
theorem dX7_round_12 : decode cX7_round 12 = .ok (.iload_n 2, 1) := by decide +kernel
theorem dX7_round_13 : decode cX7_round 13 = .ok (.i2l, 1) := by decide +kernel
theorem dX7_round_14 : decode cX7_round 14 = .ok (.lconst 0, 1) := by decide +kernel
theorem dX7_round_15 : decode cX7_round 15 = .ok (.lconst 1, 1) := by decide +kernel
theorem dX7_round_16 : decode cX7_round 16 = .ok (.invokestatic 78, 3) := by decide +kernel
theorem dX7_round_19 : decode cX7_round 19 = .ok (.ifCond .ne 6, 3) := by decide +kernel
theorem dX7_round_22 : decode cX7_round 22 = .ok (.bipush (-2), 2) := by decide +kernel
theorem dX7_round_24 : decode cX7_round 24 = .ok (.ireturn, 1) := by decide +kernel
theorem dX7_round_25 : decode cX7_round 25 = .ok (.aload_n 0, 1) := by decide +kernel
theorem dX7_round_26 : decode cX7_round 26 = .ok (.invokevirtual 210, 3) := by decide +kernel
theorem dX7_round_29 : decode cX7_round 29 = .ok (.iconst 0, 1) := by decide +kernel
theorem dX7_round_30 : decode cX7_round 30 = .ok (.istore_n 3, 1) := by decide +kernel
theorem dX7_round_31 : decode cX7_round 31 = .ok (.iconst 1, 1) := by decide +kernel
theorem dX7_round_32 : decode cX7_round 32 = .ok (.istore 4, 2) := by decide +kernel
theorem dX7_round_34 : decode cX7_round 34 = .ok (.iload 4, 2) := by decide +kernel
theorem dX7_round_36 : decode cX7_round 36 = .ok (.sipush 1024, 3) := by decide +kernel
theorem dX7_round_39 : decode cX7_round 39 = .ok (.if_icmp .ge 42, 3) := by decide +kernel
theorem dX7_round_42 : decode cX7_round 42 = .ok (.aload_n 0, 1) := by decide +kernel
theorem dX7_round_43 : decode cX7_round 43 = .ok (.iload 4, 2) := by decide +kernel
theorem dX7_round_45 : decode cX7_round 45 = .ok (.iload_n 1, 1) := by decide +kernel
theorem dX7_round_46 : decode cX7_round 46 = .ok (.invokevirtual 221, 3) := by decide +kernel
theorem dX7_round_49 : decode cX7_round 49 = .ok (.istore 5, 2) := by decide +kernel
theorem dX7_round_51 : decode cX7_round 51 = .ok (.iload 5, 2) := by decide +kernel
theorem dX7_round_53 : decode cX7_round 53 = .ok (.ifCond .eq 20, 3) := by decide +kernel
theorem dX7_round_56 : decode cX7_round 56 = .ok (.iload 4, 2) := by decide +kernel
theorem dX7_round_58 : decode cX7_round 58 = .ok (.invokestatic 225, 3) := by decide +kernel
theorem dX7_round_61 : decode cX7_round 61 = .ok (.iload_n 3, 1) := by decide +kernel
theorem dX7_round_62 : decode cX7_round 62 = .ok (.invokestatic 225, 3) := by decide +kernel
theorem dX7_round_65 : decode cX7_round 65 = .ok (.if_icmp .le 8, 3) := by decide +kernel
theorem dX7_round_68 : decode cX7_round 68 = .ok (.iload 4, 2) := by decide +kernel
theorem dX7_round_70 : decode cX7_round 70 = .ok (.goto 4, 3) := by decide +kernel
theorem dX7_round_73 : decode cX7_round 73 = .ok (.iload_n 3, 1) := by decide +kernel
theorem dX7_round_74 : decode cX7_round 74 = .ok (.istore_n 3, 1) := by decide +kernel
theorem dX7_round_75 : decode cX7_round 75 = .ok (.iinc 4 1, 3) := by decide +kernel
theorem dX7_round_78 : decode cX7_round 78 = .ok (.goto (-44), 3) := by decide +kernel
theorem dX7_round_81 : decode cX7_round 81 = .ok (.iload_n 2, 1) := by decide +kernel
theorem dX7_round_82 : decode cX7_round 82 = .ok (.ifCond .ne 10, 3) := by decide +kernel
theorem dX7_round_85 : decode cX7_round 85 = .ok (.iload_n 3, 1) := by decide +kernel
theorem dX7_round_86 : decode cX7_round 86 = .ok (.invokestatic 225, 3) := by decide +kernel
theorem dX7_round_89 : decode cX7_round 89 = .ok (.goto 4, 3) := by decide +kernel
theorem dX7_round_92 : decode cX7_round 92 = .ok (.iload_n 3, 1) := by decide +kernel
theorem dX7_round_93 : decode cX7_round 93 = .ok (.ireturn, 1) := by decide +kernel
theorem dX7_around_0 : decode cX7_around 0 = .ok (.iload_n 1, 1) := by decide +kernel
theorem dX7_around_1 : decode cX7_around 1 = .ok (.istore_n 2, 1) := by decide +kernel
theorem dX7_around_2 : decode cX7_around 2 = .ok (.iconst 0, 1) := by decide +kernel
theorem dX7_around_3 : decode cX7_around 3 = .ok (.istore_n 3, 1) := by decide +kernel
theorem dX7_around_4 : decode cX7_around 4 = .ok (.iload_n 3, 1) := by decide +kernel
theorem dX7_around_5 : decode cX7_around 5 = .ok (.bipush 121, 2) := by decide +kernel
theorem dX7_around_7 : decode cX7_around 7 = .ok (.if_icmp .ge 43, 3) := by decide +kernel
theorem dX7_around_10 : decode cX7_around 10 = .ok (.iload_n 2, 1) := by decide +kernel
theorem dX7_around_11 : decode cX7_around 11 = .ok (.iload_n 1, 1) := by decide +kernel
theorem dX7_around_12 : decode cX7_around 12 = .ok (.iload_n 3, 1) := by decide +kernel
theorem dX7_around_13 : decode cX7_around 13 = .ok (.bipush 11, 2) := by decide +kernel
theorem dX7_around_15 : decode cX7_around 15 = .ok (.idiv, 1) := by decide +kernel
theorem dX7_around_16 : decode cX7_around 16 = .ok (.ishr, 1) := by decide +kernel
theorem dX7_around_17 : decode cX7_around 17 = .ok (.iconst 1, 1) := by decide +kernel
theorem dX7_around_18 : decode cX7_around 18 = .ok (.iand, 1) := by decide +kernel
theorem dX7_around_19 : decode cX7_around 19 = .ok (.iconst 1, 1) := by decide +kernel
theorem dX7_around_20 : decode cX7_around 20 = .ok (.if_icmp .ne 21, 3) := by decide +kernel
theorem dX7_around_23 : decode cX7_around 23 = .ok (.aload_n 0, 1) := by decide +kernel
theorem dX7_around_24 : decode cX7_around 24 = .ok (.getfield 7, 3) := by decide +kernel
theorem dX7_around_27 : decode cX7_around 27 = .ok (.iload_n 3, 1) := by decide +kernel
theorem dX7_around_28 : decode cX7_around 28 = .ok (.iaload, 1) := by decide +kernel
theorem dX7_around_29 : decode cX7_around 29 = .ok (.ifCond .le 12, 3) := by decide +kernel
theorem dX7_around_32 : decode cX7_around 32 = .ok (.iconst 1, 1) := by decide +kernel
theorem dX7_around_33 : decode cX7_around 33 = .ok (.iload_n 3, 1) := by decide +kernel
theorem dX7_around_34 : decode cX7_around 34 = .ok (.bipush 11, 2) := by decide +kernel
theorem dX7_around_36 : decode cX7_around 36 = .ok (.irem, 1) := by decide +kernel
theorem dX7_around_37 : decode cX7_around 37 = .ok (.ishl, 1) := by decide +kernel
theorem dX7_around_38 : decode cX7_around 38 = .ok (.goto 4, 3) := by decide +kernel
theorem dX7_around_41 : decode cX7_around 41 = .ok (.iconst 0, 1) := by decide +kernel
theorem dX7_around_42 : decode cX7_around 42 = .ok (.ior, 1) := by decide +kernel
theorem dX7_around_43 : decode cX7_around 43 = .ok (.istore_n 2, 1) := by decide +kernel
theorem dX7_around_44 : decode cX7_around 44 = .ok (.iinc 3 1, 3) := by decide +kernel
theorem dX7_around_47 : decode cX7_around 47 = .ok (.goto (-43), 3) := by decide +kernel
theorem dX7_around_50 : decode cX7_around 50 = .ok (.iload_n 2, 1) := by decide +kernel
theorem dX7_around_51 : decode cX7_around 51 = .ok (.ireturn, 1) := by decide +kernel
set_option maxRecDepth 20000 in
theorem ggX7_isKept_X7_around : GoodIn wsX7_isKept wsX7_around := goodIn_r _ [5, 6, 7, 8, 9, 10, 11, 12, 13, 14, 15, 16, 17, 18, 19, 20, 21, 22, 23, 24, 25, 26, 27, 28, 29, 30, 31, 32, 33, 34, 35, 36, 37, 38, 39, 40] (by decide +kernel) (by decide +kernel)
set_option maxRecDepth 20000 in
theorem gX7_isKept_X7_around : GoodIn wsX7_isKept (wsV RX7 228 RX7 yX7_around wsX7_around) := goodIn_app (goodIn_of _ (by decide +kernel)) ggX7_isKept_X7_around
theorem dX7_isKept_0 : decode cX7_isKept 0 = .ok (.sipush 1024, 3) := by decide +kernel
theorem dX7_isKept_3 : decode cX7_isKept 3 = .ok (.istore_n 3, 1) := by decide +kernel
theorem dX7_isKept_4 : decode cX7_isKept 4 = .ok (.iconst 0, 1) := by decide +kernel
theorem dX7_isKept_5 : decode cX7_isKept 5 = .ok (.istore 4, 2) := by decide +kernel
theorem dX7_isKept_7 : decode cX7_isKept 7 = .ok (.iload 4, 2) := by decide +kernel
theorem dX7_isKept_9 : decode cX7_isKept 9 = .ok (.bipush 11, 2) := by decide +kernel
theorem dX7_isKept_11 : decode cX7_isKept 11 = .ok (.if_icmp .ge 19, 3) := by decide +kernel
theorem dX7_isKept_14 : decode cX7_isKept 14 = .ok (.aload_n 0, 1) := by decide +kernel
theorem dX7_isKept_15 : decode cX7_isKept 15 = .ok (.iload_n 3, 1) := by decide +kernel
theorem dX7_isKept_16 : decode cX7_isKept 16 = .ok (.invokevirtual 228, 3) := by decide +kernel
theorem dX7_isKept_19 : decode cX7_isKept 19 = .ok (.iload_n 2, 1) := by decide +kernel
theorem dX7_isKept_20 : decode cX7_isKept 20 = .ok (.iconst (-1), 1) := by decide +kernel
theorem dX7_isKept_21 : decode cX7_isKept 21 = .ok (.ixor, 1) := by decide +kernel
theorem dX7_isKept_22 : decode cX7_isKept 22 = .ok (.iand, 1) := by decide +kernel
theorem dX7_isKept_23 : decode cX7_isKept 23 = .ok (.istore_n 3, 1) := by decide +kernel
theorem dX7_isKept_24 : decode cX7_isKept 24 = .ok (.iinc 4 1, 3) := by decide +kernel
theorem dX7_isKept_27 : decode cX7_isKept 27 = .ok (.goto (-20), 3) := by decide +kernel
theorem dX7_isKept_30 : decode cX7_isKept 30 = .ok (.iload_n 3, 1) := by decide +kernel
theorem dX7_isKept_31 : decode cX7_isKept 31 = .ok (.iload_n 1, 1) := by decide +kernel
theorem dX7_isKept_32 : decode cX7_isKept 32 = .ok (.ishr, 1) := by decide +kernel
theorem dX7_isKept_33 : decode cX7_isKept 33 = .ok (.iconst 1, 1) := by decide +kernel
theorem dX7_isKept_34 : decode cX7_isKept 34 = .ok (.iand, 1) := by decide +kernel
theorem dX7_isKept_35 : decode cX7_isKept 35 = .ok (.ifCond .ne 7, 3) := by decide +kernel
theorem dX7_isKept_38 : decode cX7_isKept 38 = .ok (.iconst 1, 1) := by decide +kernel
theorem dX7_isKept_39 : decode cX7_isKept 39 = .ok (.goto 4, 3) := by decide +kernel
theorem dX7_isKept_42 : decode cX7_isKept 42 = .ok (.iconst 0, 1) := by decide +kernel
theorem dX7_isKept_43 : decode cX7_isKept 43 = .ok (.ireturn, 1) := by decide +kernel
set_option maxRecDepth 20000 in
theorem ggX7_keep_X7_isHouse : GoodIn wsX7_keep wsX7_isHouse := goodIn_r _ [4, 5, 6, 7, 3, 8] (by decide +kernel) (by decide +kernel)
set_option maxRecDepth 20000 in
theorem gX7_keep_X7_isHouse : GoodIn wsX7_keep (va_wsS RX7 88 yX7_isHouse wsX7_isHouse) := goodIn_app (goodIn_of _ (by decide +kernel)) ggX7_keep_X7_isHouse
set_option maxRecDepth 20000 in
theorem ggX7_keep_X7_in : GoodIn wsX7_keep wsX7_in := goodIn_r _ [8] (by decide +kernel) (by decide +kernel)
set_option maxRecDepth 20000 in
theorem gX7_keep_X7_in : GoodIn wsX7_keep (va_wsS RX7 78 yX7_in wsX7_in) := goodIn_app (goodIn_of _ (by decide +kernel)) ggX7_keep_X7_in
set_option maxRecDepth 20000 in
theorem ggX7_keep_X7_ones : GoodIn wsX7_keep wsX7_ones := goodIn_r _ [11] (by decide +kernel) (by decide +kernel)
set_option maxRecDepth 20000 in
theorem gX7_keep_X7_ones : GoodIn wsX7_keep (va_wsS RX7 225 yX7_ones wsX7_ones) := goodIn_app (goodIn_of _ (by decide +kernel)) ggX7_keep_X7_ones
set_option maxRecDepth 20000 in
theorem ggX7_keep_X7_isKept : GoodIn wsX7_keep wsX7_isKept := goodIn_r _ [15, 16, 17, 18, 3, 19, 20, 21, 22, 23, 24, 25, 26, 27, 28, 29, 30, 31, 32, 33, 34, 35, 36, 37, 38, 39, 40, 41, 42, 43, 44, 45, 46, 47, 48, 49, 50, 51, 52, 53, 54] (by decide +kernel) (by decide +kernel)
set_option maxRecDepth 20000 in
theorem gX7_keep_X7_isKept : GoodIn wsX7_keep (wsV RX7 231 RX7 yX7_isKept wsX7_isKept) := goodIn_app (goodIn_of _ (by decide +kernel)) ggX7_keep_X7_isKept
theorem dX7_keep_0 : decode cX7_keep 0 = .ok (.iload_n 1, 1) := by decide +kernel
theorem dX7_keep_1 : decode cX7_keep 1 = .ok (.invokestatic 88, 3) := by decide +kernel
theorem dX7_keep_4 : decode cX7_keep 4 = .ok (.ifCond .ne 5, 3) := by decide +kernel
theorem dX7_keep_7 : decode cX7_keep 7 = .ok (.iconst (-1), 1) := by decide +kernel
theorem dX7_keep_8 : decode cX7_keep 8 = .ok (.ireturn, 1) := by decide +kernel
theorem dX7_keep_9 : decode cX7_keep 9 = .ok (.iload_n 2, 1) := by decide +kernel
theorem dX7_keep_10 : decode cX7_keep 10 = .ok (.i2l, 1) := by decide +kernel
theorem dX7_keep_11 : decode cX7_keep 11 = .ok (.lconst 0, 1) := by decide +kernel
theorem dX7_keep_12 : decode cX7_keep 12 = .ok (.lconst 1, 1) := by decide +kernel
theorem dX7_keep_13 : decode cX7_keep 13 = .ok (.invokestatic 78, 3) := by decide +kernel
theorem dX7_keep_16 : decode cX7_keep 16 = .ok (.ifCond .ne 6, 3) := by decide +kernel
theorem dX7_keep_19 : decode cX7_keep 19 = .ok (.bipush (-2), 2) := by decide +kernel
theorem dX7_keep_21 : decode cX7_keep 21 = .ok (.ireturn, 1) := by decide +kernel
theorem dX7_keep_22 : decode cX7_keep 22 = .ok (.bipush (-6), 2) := by decide +kernel
theorem dX7_keep_24 : decode cX7_keep 24 = .ok (.istore_n 3, 1) := by decide +kernel
theorem dX7_keep_25 : decode cX7_keep 25 = .ok (.iconst 0, 1) := by decide +kernel
theorem dX7_keep_26 : decode cX7_keep 26 = .ok (.istore 4, 2) := by decide +kernel
theorem dX7_keep_28 : decode cX7_keep 28 = .ok (.iload 4, 2) := by decide +kernel
theorem dX7_keep_30 : decode cX7_keep 30 = .ok (.sipush 1024, 3) := by decide +kernel
theorem dX7_keep_33 : decode cX7_keep 33 = .ok (.if_icmp .ge 63, 3) := by decide +kernel
theorem dX7_keep_36 : decode cX7_keep 36 = .ok (.iload 4, 2) := by decide +kernel
theorem dX7_keep_38 : decode cX7_keep 38 = .ok (.iload_n 1, 1) := by decide +kernel
theorem dX7_keep_39 : decode cX7_keep 39 = .ok (.ishr, 1) := by decide +kernel
theorem dX7_keep_40 : decode cX7_keep 40 = .ok (.iconst 1, 1) := by decide +kernel
theorem dX7_keep_41 : decode cX7_keep 41 = .ok (.iand, 1) := by decide +kernel
theorem dX7_keep_42 : decode cX7_keep 42 = .ok (.ifCond .ne 23, 3) := by decide +kernel
theorem dX7_keep_45 : decode cX7_keep 45 = .ok (.iload_n 3, 1) := by decide +kernel
theorem dX7_keep_46 : decode cX7_keep 46 = .ok (.ifCond .lt 15, 3) := by decide +kernel
theorem dX7_keep_49 : decode cX7_keep 49 = .ok (.iload 4, 2) := by decide +kernel
theorem dX7_keep_51 : decode cX7_keep 51 = .ok (.invokestatic 225, 3) := by decide +kernel
theorem dX7_keep_54 : decode cX7_keep 54 = .ok (.iload_n 3, 1) := by decide +kernel
theorem dX7_keep_55 : decode cX7_keep 55 = .ok (.invokestatic 225, 3) := by decide +kernel
theorem dX7_keep_58 : decode cX7_keep 58 = .ok (.if_icmp .ge 7, 3) := by decide +kernel
theorem dX7_keep_61 : decode cX7_keep 61 = .ok (.iconst 1, 1) := by decide +kernel
theorem dX7_keep_62 : decode cX7_keep 62 = .ok (.goto 4, 3) := by decide +kernel
theorem dX7_keep_65 : decode cX7_keep 65 = .ok (.iconst 0, 1) := by decide +kernel
theorem dX7_keep_66 : decode cX7_keep 66 = .ok (.istore 5, 2) := by decide +kernel
theorem dX7_keep_68 : decode cX7_keep 68 = .ok (.iload 5, 2) := by decide +kernel
theorem dX7_keep_70 : decode cX7_keep 70 = .ok (.ifCond .eq 18, 3) := by decide +kernel
theorem dX7_keep_73 : decode cX7_keep 73 = .ok (.aload_n 0, 1) := by decide +kernel
theorem dX7_keep_74 : decode cX7_keep 74 = .ok (.iload_n 1, 1) := by decide +kernel
theorem dX7_keep_75 : decode cX7_keep 75 = .ok (.iload 4, 2) := by decide +kernel
theorem dX7_keep_77 : decode cX7_keep 77 = .ok (.invokevirtual 231, 3) := by decide +kernel
theorem dX7_keep_80 : decode cX7_keep 80 = .ok (.ifCond .eq 8, 3) := by decide +kernel
theorem dX7_keep_83 : decode cX7_keep 83 = .ok (.iload 4, 2) := by decide +kernel
theorem dX7_keep_85 : decode cX7_keep 85 = .ok (.goto 4, 3) := by decide +kernel
theorem dX7_keep_88 : decode cX7_keep 88 = .ok (.iload_n 3, 1) := by decide +kernel
theorem dX7_keep_89 : decode cX7_keep 89 = .ok (.istore_n 3, 1) := by decide +kernel
theorem dX7_keep_90 : decode cX7_keep 90 = .ok (.iinc 4 1, 3) := by decide +kernel
theorem dX7_keep_93 : decode cX7_keep 93 = .ok (.goto (-65), 3) := by decide +kernel
theorem dX7_keep_96 : decode cX7_keep 96 = .ok (.iload_n 3, 1) := by decide +kernel
theorem dX7_keep_97 : decode cX7_keep 97 = .ok (.ifCond .lt 8, 3) := by decide +kernel
theorem dX7_keep_100 : decode cX7_keep 100 = .ok (.iload_n 2, 1) := by decide +kernel
theorem dX7_keep_101 : decode cX7_keep 101 = .ok (.iconst 1, 1) := by decide +kernel
theorem dX7_keep_102 : decode cX7_keep 102 = .ok (.if_icmp .ne 7, 3) := by decide +kernel
theorem dX7_keep_105 : decode cX7_keep 105 = .ok (.iload_n 3, 1) := by decide +kernel
theorem dX7_keep_106 : decode cX7_keep 106 = .ok (.goto 7, 3) := by decide +kernel
theorem dX7_keep_109 : decode cX7_keep 109 = .ok (.iload_n 3, 1) := by decide +kernel
theorem dX7_keep_110 : decode cX7_keep 110 = .ok (.invokestatic 225, 3) := by decide +kernel
theorem dX7_keep_113 : decode cX7_keep 113 = .ok (.ireturn, 1) := by decide +kernel
theorem dX7_fadedBy_0 : decode cX7_fadedBy 0 = .ok (.iload_n 1, 1) := by decide +kernel
theorem dX7_fadedBy_1 : decode cX7_fadedBy 1 = .ok (.istore_n 3, 1) := by decide +kernel
theorem dX7_fadedBy_2 : decode cX7_fadedBy 2 = .ok (.iconst 0, 1) := by decide +kernel
theorem dX7_fadedBy_3 : decode cX7_fadedBy 3 = .ok (.istore 4, 2) := by decide +kernel
theorem dX7_fadedBy_5 : decode cX7_fadedBy 5 = .ok (.iload 4, 2) := by decide +kernel
theorem dX7_fadedBy_7 : decode cX7_fadedBy 7 = .ok (.iload_n 2, 1) := by decide +kernel
theorem dX7_fadedBy_8 : decode cX7_fadedBy 8 = .ok (.if_icmp .ge 16, 3) := by decide +kernel
theorem dX7_fadedBy_11 : decode cX7_fadedBy 11 = .ok (.aload_n 0, 1) := by decide +kernel
theorem dX7_fadedBy_12 : decode cX7_fadedBy 12 = .ok (.getfield 22, 3) := by decide +kernel
theorem dX7_fadedBy_15 : decode cX7_fadedBy 15 = .ok (.iload_n 3, 1) := by decide +kernel
theorem dX7_fadedBy_16 : decode cX7_fadedBy 16 = .ok (.iaload, 1) := by decide +kernel
theorem dX7_fadedBy_17 : decode cX7_fadedBy 17 = .ok (.istore_n 3, 1) := by decide +kernel
theorem dX7_fadedBy_18 : decode cX7_fadedBy 18 = .ok (.iinc 4 1, 3) := by decide +kernel
theorem dX7_fadedBy_21 : decode cX7_fadedBy 21 = .ok (.goto (-16), 3) := by decide +kernel
theorem dX7_fadedBy_24 : decode cX7_fadedBy 24 = .ok (.iload_n 3, 1) := by decide +kernel
theorem dX7_fadedBy_25 : decode cX7_fadedBy 25 = .ok (.ireturn, 1) := by decide +kernel
set_option maxRecDepth 20000 in
theorem ggX7_cameAhead_X7_fadedBy : GoodIn wsX7_cameAhead wsX7_fadedBy := goodIn_r _ [5, 6, 7, 8, 9, 10, 11, 12, 13, 14, 15, 16, 17, 18, 19, 20, 21, 22, 23, 24, 25, 26, 27, 28, 29, 30, 31, 32, 33, 34, 35, 36, 37, 38, 39, 40] (by decide +kernel) (by decide +kernel)
set_option maxRecDepth 20000 in
theorem gX7_cameAhead_X7_fadedBy : GoodIn wsX7_cameAhead (wsV RX7 234 RX7 yX7_fadedBy wsX7_fadedBy) := goodIn_app (goodIn_of _ (by decide +kernel)) ggX7_cameAhead_X7_fadedBy
theorem dX7_cameAhead_0 : decode cX7_cameAhead 0 = .ok (.iconst 0, 1) := by decide +kernel
theorem dX7_cameAhead_1 : decode cX7_cameAhead 1 = .ok (.istore_n 3, 1) := by decide +kernel
theorem dX7_cameAhead_2 : decode cX7_cameAhead 2 = .ok (.iload_n 3, 1) := by decide +kernel
theorem dX7_cameAhead_3 : decode cX7_cameAhead 3 = .ok (.iload_n 2, 1) := by decide +kernel
theorem dX7_cameAhead_4 : decode cX7_cameAhead 4 = .ok (.if_icmp .ge 28, 3) := by decide +kernel
theorem dX7_cameAhead_7 : decode cX7_cameAhead 7 = .ok (.aload_n 0, 1) := by decide +kernel
theorem dX7_cameAhead_8 : decode cX7_cameAhead 8 = .ok (.iload_n 1, 1) := by decide +kernel
theorem dX7_cameAhead_9 : decode cX7_cameAhead 9 = .ok (.iload_n 3, 1) := by decide +kernel
theorem dX7_cameAhead_10 : decode cX7_cameAhead 10 = .ok (.invokevirtual 234, 3) := by decide +kernel
theorem dX7_cameAhead_13 : decode cX7_cameAhead 13 = .ok (.aload_n 0, 1) := by decide +kernel
theorem dX7_cameAhead_14 : decode cX7_cameAhead 14 = .ok (.iload_n 1, 1) := by decide +kernel
theorem dX7_cameAhead_15 : decode cX7_cameAhead 15 = .ok (.iload_n 2, 1) := by decide +kernel
theorem dX7_cameAhead_16 : decode cX7_cameAhead 16 = .ok (.invokevirtual 234, 3) := by decide +kernel
theorem dX7_cameAhead_19 : decode cX7_cameAhead 19 = .ok (.if_icmp .ne 7, 3) := by decide +kernel
theorem dX7_cameAhead_22 : decode cX7_cameAhead 22 = .ok (.iload_n 2, 1) := by decide +kernel
theorem dX7_cameAhead_23 : decode cX7_cameAhead 23 = .ok (.iload_n 3, 1) := by decide +kernel
theorem dX7_cameAhead_24 : decode cX7_cameAhead 24 = .ok (.isub, 1) := by decide +kernel
theorem dX7_cameAhead_25 : decode cX7_cameAhead 25 = .ok (.ireturn, 1) := by decide +kernel
theorem dX7_cameAhead_26 : decode cX7_cameAhead 26 = .ok (.iinc 3 1, 3) := by decide +kernel
theorem dX7_cameAhead_29 : decode cX7_cameAhead 29 = .ok (.goto (-27), 3) := by decide +kernel
theorem dX7_cameAhead_32 : decode cX7_cameAhead 32 = .ok (.bipush (-6), 2) := by decide +kernel
theorem dX7_cameAhead_34 : decode cX7_cameAhead 34 = .ok (.ireturn, 1) := by decide +kernel
set_option maxRecDepth 20000 in
theorem ggX7_faded_X7_isTale : GoodIn wsX7_faded wsX7_isTale := goodIn_r _ [6, 7, 8, 9, 5, 10] (by decide +kernel) (by decide +kernel)
set_option maxRecDepth 20000 in
theorem gX7_faded_X7_isTale : GoodIn wsX7_faded (va_wsS RX7 93 yX7_isTale wsX7_isTale) := goodIn_app (goodIn_of _ (by decide +kernel)) ggX7_faded_X7_isTale
set_option maxRecDepth 20000 in
theorem ggX7_faded_X7_in : GoodIn wsX7_faded wsX7_in := goodIn_r _ [10] (by decide +kernel) (by decide +kernel)
set_option maxRecDepth 20000 in
theorem gX7_faded_X7_in : GoodIn wsX7_faded (va_wsS RX7 78 yX7_in wsX7_in) := goodIn_app (goodIn_of _ (by decide +kernel)) ggX7_faded_X7_in
set_option maxRecDepth 20000 in
theorem ggX7_faded_X7_fadedBy : GoodIn wsX7_faded wsX7_fadedBy := goodIn_r _ [14, 15, 20, 21, 22, 23, 24, 25, 26, 27, 28, 29, 30, 31, 32, 33, 34, 35, 36, 37, 38, 39, 40, 41, 42, 43, 44, 45, 46, 47, 48, 49, 50, 51, 52, 53] (by decide +kernel) (by decide +kernel)
set_option maxRecDepth 20000 in
theorem gX7_faded_X7_fadedBy : GoodIn wsX7_faded (wsV RX7 234 RX7 yX7_fadedBy wsX7_fadedBy) := goodIn_app (goodIn_of _ (by decide +kernel)) ggX7_faded_X7_fadedBy
set_option maxRecDepth 20000 in
theorem ggX7_faded_X7_cameAhead : GoodIn wsX7_faded wsX7_cameAhead := goodIn_r _ [19, 11, 12, 13, 5, 14, 15, 20, 21, 22, 23, 24, 25, 26, 27, 28, 29, 30, 31, 32, 33, 34, 35, 36, 37, 38, 39, 40, 41, 42, 43, 44, 45, 46, 47, 48, 49, 50, 51, 52, 53] (by decide +kernel) (by decide +kernel)
set_option maxRecDepth 20000 in
theorem gX7_faded_X7_cameAhead : GoodIn wsX7_faded (wsV RX7 239 RX7 yX7_cameAhead wsX7_cameAhead) := goodIn_app (goodIn_of _ (by decide +kernel)) ggX7_faded_X7_cameAhead
theorem dX7_faded_0 : decode cX7_faded 0 = .ok (.iload_n 1, 1) := by decide +kernel
theorem dX7_faded_1 : decode cX7_faded 1 = .ok (.invokestatic 93, 3) := by decide +kernel
theorem dX7_faded_4 : decode cX7_faded 4 = .ok (.ifCond .ne 5, 3) := by decide +kernel
theorem dX7_faded_7 : decode cX7_faded 7 = .ok (.iconst (-1), 1) := by decide +kernel
theorem dX7_faded_8 : decode cX7_faded 8 = .ok (.ireturn, 1) := by decide +kernel
theorem dX7_faded_9 : decode cX7_faded 9 = .ok (.iload_n 2, 1) := by decide +kernel
theorem dX7_faded_10 : decode cX7_faded 10 = .ok (.i2l, 1) := by decide +kernel
theorem dX7_faded_11 : decode cX7_faded 11 = .ok (.ldc2_w 237, 3) := by decide +kernel
theorem dX7_faded_14 : decode cX7_faded 14 = .ok (.ldc2_w 219, 3) := by decide +kernel
theorem dX7_faded_17 : decode cX7_faded 17 = .ok (.invokestatic 78, 3) := by decide +kernel
theorem dX7_faded_20 : decode cX7_faded 20 = .ok (.ifCond .ne 6, 3) := by decide +kernel
theorem dX7_faded_23 : decode cX7_faded 23 = .ok (.bipush (-2), 2) := by decide +kernel
theorem dX7_faded_25 : decode cX7_faded 25 = .ok (.ireturn, 1) := by decide +kernel
theorem dX7_faded_26 : decode cX7_faded 26 = .ok (.iload_n 2, 1) := by decide +kernel
theorem dX7_faded_27 : decode cX7_faded 27 = .ok (.ifCond .lt 10, 3) := by decide +kernel
theorem dX7_faded_30 : decode cX7_faded 30 = .ok (.aload_n 0, 1) := by decide +kernel
theorem dX7_faded_31 : decode cX7_faded 31 = .ok (.iload_n 1, 1) := by decide +kernel
theorem dX7_faded_32 : decode cX7_faded 32 = .ok (.iload_n 2, 1) := by decide +kernel
theorem dX7_faded_33 : decode cX7_faded 33 = .ok (.invokevirtual 234, 3) := by decide +kernel
theorem dX7_faded_36 : decode cX7_faded 36 = .ok (.ireturn, 1) := by decide +kernel
theorem dX7_faded_37 : decode cX7_faded 37 = .ok (.iconst 1, 1) := by decide +kernel
theorem dX7_faded_38 : decode cX7_faded 38 = .ok (.istore_n 3, 1) := by decide +kernel
theorem dX7_faded_39 : decode cX7_faded 39 = .ok (.aload_n 0, 1) := by decide +kernel
theorem dX7_faded_40 : decode cX7_faded 40 = .ok (.iload_n 1, 1) := by decide +kernel
theorem dX7_faded_41 : decode cX7_faded 41 = .ok (.iload_n 3, 1) := by decide +kernel
theorem dX7_faded_42 : decode cX7_faded 42 = .ok (.invokevirtual 239, 3) := by decide +kernel
theorem dX7_faded_45 : decode cX7_faded 45 = .ok (.ifCond .ge 9, 3) := by decide +kernel
theorem dX7_faded_48 : decode cX7_faded 48 = .ok (.iinc 3 1, 3) := by decide +kernel
theorem dX7_faded_51 : decode cX7_faded 51 = .ok (.goto (-12), 3) := by decide +kernel
theorem dX7_faded_54 : decode cX7_faded 54 = .ok (.iload_n 2, 1) := by decide +kernel
theorem dX7_faded_55 : decode cX7_faded 55 = .ok (.iconst (-1), 1) := by decide +kernel
theorem dX7_faded_56 : decode cX7_faded 56 = .ok (.if_icmp .ne 7, 3) := by decide +kernel
theorem dX7_faded_59 : decode cX7_faded 59 = .ok (.iload_n 3, 1) := by decide +kernel
theorem dX7_faded_60 : decode cX7_faded 60 = .ok (.goto 9, 3) := by decide +kernel
theorem dX7_faded_63 : decode cX7_faded 63 = .ok (.aload_n 0, 1) := by decide +kernel
theorem dX7_faded_64 : decode cX7_faded 64 = .ok (.iload_n 1, 1) := by decide +kernel
theorem dX7_faded_65 : decode cX7_faded 65 = .ok (.iload_n 3, 1) := by decide +kernel
theorem dX7_faded_66 : decode cX7_faded 66 = .ok (.invokevirtual 239, 3) := by decide +kernel
theorem dX7_faded_69 : decode cX7_faded 69 = .ok (.ireturn, 1) := by decide +kernel
set_option maxRecDepth 20000 in
theorem ggX7_seen_X7_isTale : GoodIn wsX7_seen wsX7_isTale := goodIn_r _ [8, 9, 10, 11, 7, 12] (by decide +kernel) (by decide +kernel)
set_option maxRecDepth 20000 in
theorem gX7_seen_X7_isTale : GoodIn wsX7_seen (va_wsS RX7 93 yX7_isTale wsX7_isTale) := goodIn_app (goodIn_of _ (by decide +kernel)) ggX7_seen_X7_isTale
set_option maxRecDepth 20000 in
theorem ggX7_seen_X7_in : GoodIn wsX7_seen wsX7_in := goodIn_r _ [12] (by decide +kernel) (by decide +kernel)
set_option maxRecDepth 20000 in
theorem gX7_seen_X7_in : GoodIn wsX7_seen (va_wsS RX7 78 yX7_in wsX7_in) := goodIn_app (goodIn_of _ (by decide +kernel)) ggX7_seen_X7_in
theorem dX7_seen_0 : decode cX7_seen 0 = .ok (.iload_n 2, 1) := by decide +kernel
theorem dX7_seen_1 : decode cX7_seen 1 = .ok (.invokestatic 93, 3) := by decide +kernel
theorem dX7_seen_4 : decode cX7_seen 4 = .ok (.ifCond .ne 5, 3) := by decide +kernel
theorem dX7_seen_7 : decode cX7_seen 7 = .ok (.iconst (-1), 1) := by decide +kernel
theorem dX7_seen_8 : decode cX7_seen 8 = .ok (.ireturn, 1) := by decide +kernel
theorem dX7_seen_9 : decode cX7_seen 9 = .ok (.iload_n 1, 1) := by decide +kernel
theorem dX7_seen_10 : decode cX7_seen 10 = .ok (.i2l, 1) := by decide +kernel
theorem dX7_seen_11 : decode cX7_seen 11 = .ok (.lconst 0, 1) := by decide +kernel
theorem dX7_seen_12 : decode cX7_seen 12 = .ok (.ldc2_w 242, 3) := by decide +kernel
theorem dX7_seen_15 : decode cX7_seen 15 = .ok (.invokestatic 78, 3) := by decide +kernel
theorem dX7_seen_18 : decode cX7_seen 18 = .ok (.ifCond .ne 6, 3) := by decide +kernel
theorem dX7_seen_21 : decode cX7_seen 21 = .ok (.bipush (-2), 2) := by decide +kernel
theorem dX7_seen_23 : decode cX7_seen 23 = .ok (.ireturn, 1) := by decide +kernel
theorem dX7_seen_24 : decode cX7_seen 24 = .ok (.aload_n 0, 1) := by decide +kernel
theorem dX7_seen_25 : decode cX7_seen 25 = .ok (.getfield 244, 3) := by decide +kernel
theorem dX7_seen_28 : decode cX7_seen 28 = .ok (.bipush 8, 2) := by decide +kernel
theorem dX7_seen_30 : decode cX7_seen 30 = .ok (.if_icmp .ne 6, 3) := by decide +kernel
theorem dX7_seen_33 : decode cX7_seen 33 = .ok (.bipush (-4), 2) := by decide +kernel
theorem dX7_seen_35 : decode cX7_seen 35 = .ok (.ireturn, 1) := by decide +kernel
theorem dX7_seen_36 : decode cX7_seen 36 = .ok (.aload_n 0, 1) := by decide +kernel
theorem dX7_seen_37 : decode cX7_seen 37 = .ok (.getfield 25, 3) := by decide +kernel
theorem dX7_seen_40 : decode cX7_seen 40 = .ok (.aload_n 0, 1) := by decide +kernel
theorem dX7_seen_41 : decode cX7_seen 41 = .ok (.getfield 244, 3) := by decide +kernel
theorem dX7_seen_44 : decode cX7_seen 44 = .ok (.iload_n 1, 1) := by decide +kernel
theorem dX7_seen_45 : decode cX7_seen 45 = .ok (.iastore, 1) := by decide +kernel
theorem dX7_seen_46 : decode cX7_seen 46 = .ok (.aload_n 0, 1) := by decide +kernel
theorem dX7_seen_47 : decode cX7_seen 47 = .ok (.getfield 28, 3) := by decide +kernel
theorem dX7_seen_50 : decode cX7_seen 50 = .ok (.aload_n 0, 1) := by decide +kernel
theorem dX7_seen_51 : decode cX7_seen 51 = .ok (.getfield 244, 3) := by decide +kernel
theorem dX7_seen_54 : decode cX7_seen 54 = .ok (.iload_n 2, 1) := by decide +kernel
theorem dX7_seen_55 : decode cX7_seen 55 = .ok (.iastore, 1) := by decide +kernel
theorem dX7_seen_56 : decode cX7_seen 56 = .ok (.aload_n 0, 1) := by decide +kernel
theorem dX7_seen_57 : decode cX7_seen 57 = .ok (.dup, 1) := by decide +kernel
theorem dX7_seen_58 : decode cX7_seen 58 = .ok (.getfield 244, 3) := by decide +kernel
theorem dX7_seen_61 : decode cX7_seen 61 = .ok (.iconst 1, 1) := by decide +kernel
theorem dX7_seen_62 : decode cX7_seen 62 = .ok (.iadd, 1) := by decide +kernel
theorem dX7_seen_63 : decode cX7_seen 63 = .ok (.putfield 244, 3) := by decide +kernel
theorem dX7_seen_66 : decode cX7_seen 66 = .ok (.aload_n 0, 1) := by decide +kernel
theorem dX7_seen_67 : decode cX7_seen 67 = .ok (.getfield 244, 3) := by decide +kernel
theorem dX7_seen_70 : decode cX7_seen 70 = .ok (.ireturn, 1) := by decide +kernel
theorem dX7_forget_0 : decode cX7_forget 0 = .ok (.aload_n 0, 1) := by decide +kernel
theorem dX7_forget_1 : decode cX7_forget 1 = .ok (.getfield 244, 3) := by decide +kernel
theorem dX7_forget_4 : decode cX7_forget 4 = .ok (.istore_n 1, 1) := by decide +kernel
theorem dX7_forget_5 : decode cX7_forget 5 = .ok (.aload_n 0, 1) := by decide +kernel
theorem dX7_forget_6 : decode cX7_forget 6 = .ok (.iconst 0, 1) := by decide +kernel
theorem dX7_forget_7 : decode cX7_forget 7 = .ok (.putfield 244, 3) := by decide +kernel
theorem dX7_forget_10 : decode cX7_forget 10 = .ok (.iload_n 1, 1) := by decide +kernel
theorem dX7_forget_11 : decode cX7_forget 11 = .ok (.ireturn, 1) := by decide +kernel
set_option maxRecDepth 20000 in
theorem ggX7_isFit_X7_in : GoodIn wsX7_isFit wsX7_in := goodIn_r _ [8] (by decide +kernel) (by decide +kernel)
set_option maxRecDepth 20000 in
theorem gX7_isFit_X7_in : GoodIn wsX7_isFit (va_wsS RX7 78 yX7_in wsX7_in) := goodIn_app (goodIn_of _ (by decide +kernel)) ggX7_isFit_X7_in
set_option maxRecDepth 20000 in
theorem ggX7_isFit_X7_fadedBy : GoodIn wsX7_isFit wsX7_fadedBy := goodIn_r _ [12, 13, 14, 15, 16, 17, 18, 19, 20, 21, 22, 23, 24, 25, 26, 27, 28, 29, 30, 31, 32, 33, 34, 35, 36, 37, 38, 39, 40, 41, 42, 43, 44, 45, 46, 47] (by decide +kernel) (by decide +kernel)
set_option maxRecDepth 20000 in
theorem gX7_isFit_X7_fadedBy : GoodIn wsX7_isFit (wsV RX7 234 RX7 yX7_fadedBy wsX7_fadedBy) := goodIn_app (goodIn_of _ (by decide +kernel)) ggX7_isFit_X7_fadedBy
theorem dX7_isFit_0 : decode cX7_isFit 0 = .ok (.iload_n 1, 1) := by decide +kernel
theorem dX7_isFit_1 : decode cX7_isFit 1 = .ok (.bipush 10, 2) := by decide +kernel
theorem dX7_isFit_3 : decode cX7_isFit 3 = .ok (.irem, 1) := by decide +kernel
theorem dX7_isFit_4 : decode cX7_isFit 4 = .ok (.i2l, 1) := by decide +kernel
theorem dX7_isFit_5 : decode cX7_isFit 5 = .ok (.lconst 1, 1) := by decide +kernel
theorem dX7_isFit_6 : decode cX7_isFit 6 = .ok (.ldc2_w 247, 3) := by decide +kernel
theorem dX7_isFit_9 : decode cX7_isFit 9 = .ok (.invokestatic 78, 3) := by decide +kernel
theorem dX7_isFit_12 : decode cX7_isFit 12 = .ok (.istore_n 2, 1) := by decide +kernel
theorem dX7_isFit_13 : decode cX7_isFit 13 = .ok (.iconst 0, 1) := by decide +kernel
theorem dX7_isFit_14 : decode cX7_isFit 14 = .ok (.istore_n 3, 1) := by decide +kernel
theorem dX7_isFit_15 : decode cX7_isFit 15 = .ok (.iload_n 3, 1) := by decide +kernel
theorem dX7_isFit_16 : decode cX7_isFit 16 = .ok (.aload_n 0, 1) := by decide +kernel
theorem dX7_isFit_17 : decode cX7_isFit 17 = .ok (.getfield 244, 3) := by decide +kernel
theorem dX7_isFit_20 : decode cX7_isFit 20 = .ok (.if_icmp .ge 47, 3) := by decide +kernel
theorem dX7_isFit_23 : decode cX7_isFit 23 = .ok (.iload_n 2, 1) := by decide +kernel
theorem dX7_isFit_24 : decode cX7_isFit 24 = .ok (.ifCond .eq 43, 3) := by decide +kernel
theorem dX7_isFit_27 : decode cX7_isFit 27 = .ok (.aload_n 0, 1) := by decide +kernel
theorem dX7_isFit_28 : decode cX7_isFit 28 = .ok (.iload_n 1, 1) := by decide +kernel
theorem dX7_isFit_29 : decode cX7_isFit 29 = .ok (.bipush 10, 2) := by decide +kernel
theorem dX7_isFit_31 : decode cX7_isFit 31 = .ok (.idiv, 1) := by decide +kernel
theorem dX7_isFit_32 : decode cX7_isFit 32 = .ok (.aload_n 0, 1) := by decide +kernel
theorem dX7_isFit_33 : decode cX7_isFit 33 = .ok (.getfield 25, 3) := by decide +kernel
theorem dX7_isFit_36 : decode cX7_isFit 36 = .ok (.iload_n 3, 1) := by decide +kernel
theorem dX7_isFit_37 : decode cX7_isFit 37 = .ok (.iaload, 1) := by decide +kernel
theorem dX7_isFit_38 : decode cX7_isFit 38 = .ok (.iload_n 1, 1) := by decide +kernel
theorem dX7_isFit_39 : decode cX7_isFit 39 = .ok (.bipush 10, 2) := by decide +kernel
theorem dX7_isFit_41 : decode cX7_isFit 41 = .ok (.irem, 1) := by decide +kernel
theorem dX7_isFit_42 : decode cX7_isFit 42 = .ok (.idiv, 1) := by decide +kernel
theorem dX7_isFit_43 : decode cX7_isFit 43 = .ok (.invokevirtual 234, 3) := by decide +kernel
theorem dX7_isFit_46 : decode cX7_isFit 46 = .ok (.aload_n 0, 1) := by decide +kernel
theorem dX7_isFit_47 : decode cX7_isFit 47 = .ok (.getfield 28, 3) := by decide +kernel
theorem dX7_isFit_50 : decode cX7_isFit 50 = .ok (.iload_n 3, 1) := by decide +kernel
theorem dX7_isFit_51 : decode cX7_isFit 51 = .ok (.iaload, 1) := by decide +kernel
theorem dX7_isFit_52 : decode cX7_isFit 52 = .ok (.if_icmp .ne 7, 3) := by decide +kernel
theorem dX7_isFit_55 : decode cX7_isFit 55 = .ok (.iconst 1, 1) := by decide +kernel
theorem dX7_isFit_56 : decode cX7_isFit 56 = .ok (.goto 4, 3) := by decide +kernel
theorem dX7_isFit_59 : decode cX7_isFit 59 = .ok (.iconst 0, 1) := by decide +kernel
theorem dX7_isFit_60 : decode cX7_isFit 60 = .ok (.istore_n 2, 1) := by decide +kernel
theorem dX7_isFit_61 : decode cX7_isFit 61 = .ok (.iinc 3 1, 3) := by decide +kernel
theorem dX7_isFit_64 : decode cX7_isFit 64 = .ok (.goto (-49), 3) := by decide +kernel
theorem dX7_isFit_67 : decode cX7_isFit 67 = .ok (.iload_n 2, 1) := by decide +kernel
theorem dX7_isFit_68 : decode cX7_isFit 68 = .ok (.ireturn, 1) := by decide +kernel
set_option maxRecDepth 20000 in
theorem ggX7_fits_X7_isFit : GoodIn wsX7_fits wsX7_isFit := goodIn_r _ [5, 6, 7, 8, 9, 10, 11, 4, 12, 13, 14, 15, 16, 17, 18, 19, 20, 21, 22, 23, 24, 25, 26, 27, 28, 29, 30, 31, 32, 33, 34, 35, 36, 37, 38, 39, 40, 41, 42, 43, 44, 45, 46, 47, 48, 49, 50, 51] (by decide +kernel) (by decide +kernel)
set_option maxRecDepth 20000 in
theorem gX7_fits_X7_isFit : GoodIn wsX7_fits (wsV RX7 249 RX7 yX7_isFit wsX7_isFit) := goodIn_app (goodIn_of _ (by decide +kernel)) ggX7_fits_X7_isFit
theorem dX7_fits_0 : decode cX7_fits 0 = .ok (.iconst 0, 1) := by decide +kernel
theorem dX7_fits_1 : decode cX7_fits 1 = .ok (.istore_n 2, 1) := by decide +kernel
theorem dX7_fits_2 : decode cX7_fits 2 = .ok (.iconst 0, 1) := by decide +kernel
theorem dX7_fits_3 : decode cX7_fits 3 = .ok (.istore_n 3, 1) := by decide +kernel
theorem dX7_fits_4 : decode cX7_fits 4 = .ok (.iload_n 3, 1) := by decide +kernel
theorem dX7_fits_5 : decode cX7_fits 5 = .ok (.bipush 100, 2) := by decide +kernel
theorem dX7_fits_7 : decode cX7_fits 7 = .ok (.if_icmp .ge 27, 3) := by decide +kernel
theorem dX7_fits_10 : decode cX7_fits 10 = .ok (.aload_n 0, 1) := by decide +kernel
theorem dX7_fits_11 : decode cX7_fits 11 = .ok (.iload_n 3, 1) := by decide +kernel
theorem dX7_fits_12 : decode cX7_fits 12 = .ok (.invokevirtual 249, 3) := by decide +kernel
theorem dX7_fits_15 : decode cX7_fits 15 = .ok (.ifCond .eq 13, 3) := by decide +kernel
theorem dX7_fits_18 : decode cX7_fits 18 = .ok (.iload_n 2, 1) := by decide +kernel
theorem dX7_fits_19 : decode cX7_fits 19 = .ok (.iload_n 1, 1) := by decide +kernel
theorem dX7_fits_20 : decode cX7_fits 20 = .ok (.if_icmp .ne 5, 3) := by decide +kernel
theorem dX7_fits_23 : decode cX7_fits 23 = .ok (.iload_n 3, 1) := by decide +kernel
theorem dX7_fits_24 : decode cX7_fits 24 = .ok (.ireturn, 1) := by decide +kernel
theorem dX7_fits_25 : decode cX7_fits 25 = .ok (.iinc 2 1, 3) := by decide +kernel
theorem dX7_fits_28 : decode cX7_fits 28 = .ok (.iinc 3 1, 3) := by decide +kernel
theorem dX7_fits_31 : decode cX7_fits 31 = .ok (.goto (-27), 3) := by decide +kernel
theorem dX7_fits_34 : decode cX7_fits 34 = .ok (.iload_n 1, 1) := by decide +kernel
theorem dX7_fits_35 : decode cX7_fits 35 = .ok (.iconst (-1), 1) := by decide +kernel
theorem dX7_fits_36 : decode cX7_fits 36 = .ok (.if_icmp .ne 7, 3) := by decide +kernel
theorem dX7_fits_39 : decode cX7_fits 39 = .ok (.iload_n 2, 1) := by decide +kernel
theorem dX7_fits_40 : decode cX7_fits 40 = .ok (.goto 5, 3) := by decide +kernel
theorem dX7_fits_43 : decode cX7_fits 43 = .ok (.bipush (-6), 2) := by decide +kernel
theorem dX7_fits_45 : decode cX7_fits 45 = .ok (.ireturn, 1) := by decide +kernel
set_option maxRecDepth 20000 in
theorem ggX7_mostLeft_X7_isFit : GoodIn wsX7_mostLeft wsX7_isFit := goodIn_r _ [6, 7, 8, 9, 10, 11, 12, 5, 13, 14, 15, 16, 17, 18, 19, 20, 21, 22, 23, 24, 25, 26, 27, 28, 29, 30, 31, 32, 33, 34, 35, 36, 37, 38, 39, 40, 41, 42, 43, 44, 45, 46, 47, 48, 49, 50, 51, 52] (by decide +kernel) (by decide +kernel)
set_option maxRecDepth 20000 in
theorem gX7_mostLeft_X7_isFit : GoodIn wsX7_mostLeft (wsV RX7 249 RX7 yX7_isFit wsX7_isFit) := goodIn_app (goodIn_of _ (by decide +kernel)) ggX7_mostLeft_X7_isFit
set_option maxRecDepth 20000 in
theorem ggX7_mostLeft_X7_fadedBy : GoodIn wsX7_mostLeft wsX7_fadedBy := goodIn_r _ [17, 18, 19, 20, 21, 22, 23, 24, 25, 26, 27, 28, 29, 30, 31, 32, 33, 34, 35, 36, 37, 38, 39, 40, 41, 42, 43, 44, 45, 46, 47, 48, 49, 50, 51, 52] (by decide +kernel) (by decide +kernel)
set_option maxRecDepth 20000 in
theorem gX7_mostLeft_X7_fadedBy : GoodIn wsX7_mostLeft (wsV RX7 234 RX7 yX7_fadedBy wsX7_fadedBy) := goodIn_app (goodIn_of _ (by decide +kernel)) ggX7_mostLeft_X7_fadedBy
theorem dX7_mostLeft_0 : decode cX7_mostLeft 0 = .ok (.iconst 0, 1) := by decide +kernel
theorem dX7_mostLeft_1 : decode cX7_mostLeft 1 = .ok (.istore_n 2, 1) := by decide +kernel
theorem dX7_mostLeft_2 : decode cX7_mostLeft 2 = .ok (.iconst 0, 1) := by decide +kernel
theorem dX7_mostLeft_3 : decode cX7_mostLeft 3 = .ok (.istore_n 3, 1) := by decide +kernel
theorem dX7_mostLeft_4 : decode cX7_mostLeft 4 = .ok (.iload_n 3, 1) := by decide +kernel
theorem dX7_mostLeft_5 : decode cX7_mostLeft 5 = .ok (.bipush 10, 2) := by decide +kernel
theorem dX7_mostLeft_7 : decode cX7_mostLeft 7 = .ok (.if_icmp .ge 16, 3) := by decide +kernel
theorem dX7_mostLeft_10 : decode cX7_mostLeft 10 = .ok (.aload_n 0, 1) := by decide +kernel
theorem dX7_mostLeft_11 : decode cX7_mostLeft 11 = .ok (.getfield 52, 3) := by decide +kernel
theorem dX7_mostLeft_14 : decode cX7_mostLeft 14 = .ok (.iload_n 3, 1) := by decide +kernel
theorem dX7_mostLeft_15 : decode cX7_mostLeft 15 = .ok (.iconst 0, 1) := by decide +kernel
theorem dX7_mostLeft_16 : decode cX7_mostLeft 16 = .ok (.iastore, 1) := by decide +kernel
theorem dX7_mostLeft_17 : decode cX7_mostLeft 17 = .ok (.iinc 3 1, 3) := by decide +kernel
theorem dX7_mostLeft_20 : decode cX7_mostLeft 20 = .ok (.goto (-16), 3) := by decide +kernel
theorem dX7_mostLeft_23 : decode cX7_mostLeft 23 = .ok (.iconst 0, 1) := by decide +kernel
theorem dX7_mostLeft_24 : decode cX7_mostLeft 24 = .ok (.istore_n 3, 1) := by decide +kernel
theorem dX7_mostLeft_25 : decode cX7_mostLeft 25 = .ok (.iload_n 3, 1) := by decide +kernel
theorem dX7_mostLeft_26 : decode cX7_mostLeft 26 = .ok (.bipush 100, 2) := by decide +kernel
theorem dX7_mostLeft_28 : decode cX7_mostLeft 28 = .ok (.if_icmp .ge 67, 3) := by decide +kernel
theorem dX7_mostLeft_31 : decode cX7_mostLeft 31 = .ok (.aload_n 0, 1) := by decide +kernel
theorem dX7_mostLeft_32 : decode cX7_mostLeft 32 = .ok (.iload_n 3, 1) := by decide +kernel
theorem dX7_mostLeft_33 : decode cX7_mostLeft 33 = .ok (.invokevirtual 249, 3) := by decide +kernel
theorem dX7_mostLeft_36 : decode cX7_mostLeft 36 = .ok (.ifCond .eq 53, 3) := by decide +kernel
theorem dX7_mostLeft_39 : decode cX7_mostLeft 39 = .ok (.aload_n 0, 1) := by decide +kernel
theorem dX7_mostLeft_40 : decode cX7_mostLeft 40 = .ok (.iload_n 3, 1) := by decide +kernel
theorem dX7_mostLeft_41 : decode cX7_mostLeft 41 = .ok (.bipush 10, 2) := by decide +kernel
theorem dX7_mostLeft_43 : decode cX7_mostLeft 43 = .ok (.idiv, 1) := by decide +kernel
theorem dX7_mostLeft_44 : decode cX7_mostLeft 44 = .ok (.iload_n 1, 1) := by decide +kernel
theorem dX7_mostLeft_45 : decode cX7_mostLeft 45 = .ok (.iload_n 3, 1) := by decide +kernel
theorem dX7_mostLeft_46 : decode cX7_mostLeft 46 = .ok (.bipush 10, 2) := by decide +kernel
theorem dX7_mostLeft_48 : decode cX7_mostLeft 48 = .ok (.irem, 1) := by decide +kernel
theorem dX7_mostLeft_49 : decode cX7_mostLeft 49 = .ok (.idiv, 1) := by decide +kernel
theorem dX7_mostLeft_50 : decode cX7_mostLeft 50 = .ok (.invokevirtual 234, 3) := by decide +kernel
theorem dX7_mostLeft_53 : decode cX7_mostLeft 53 = .ok (.istore 4, 2) := by decide +kernel
theorem dX7_mostLeft_55 : decode cX7_mostLeft 55 = .ok (.aload_n 0, 1) := by decide +kernel
theorem dX7_mostLeft_56 : decode cX7_mostLeft 56 = .ok (.getfield 52, 3) := by decide +kernel
theorem dX7_mostLeft_59 : decode cX7_mostLeft 59 = .ok (.iload 4, 2) := by decide +kernel
theorem dX7_mostLeft_61 : decode cX7_mostLeft 61 = .ok (.dup2, 1) := by decide +kernel
theorem dX7_mostLeft_62 : decode cX7_mostLeft 62 = .ok (.iaload, 1) := by decide +kernel
theorem dX7_mostLeft_63 : decode cX7_mostLeft 63 = .ok (.iconst 1, 1) := by decide +kernel
theorem dX7_mostLeft_64 : decode cX7_mostLeft 64 = .ok (.iadd, 1) := by decide +kernel
theorem dX7_mostLeft_65 : decode cX7_mostLeft 65 = .ok (.iastore, 1) := by decide +kernel
theorem dX7_mostLeft_66 : decode cX7_mostLeft 66 = .ok (.aload_n 0, 1) := by decide +kernel
theorem dX7_mostLeft_67 : decode cX7_mostLeft 67 = .ok (.getfield 52, 3) := by decide +kernel
theorem dX7_mostLeft_70 : decode cX7_mostLeft 70 = .ok (.iload 4, 2) := by decide +kernel
theorem dX7_mostLeft_72 : decode cX7_mostLeft 72 = .ok (.iaload, 1) := by decide +kernel
theorem dX7_mostLeft_73 : decode cX7_mostLeft 73 = .ok (.iload_n 2, 1) := by decide +kernel
theorem dX7_mostLeft_74 : decode cX7_mostLeft 74 = .ok (.if_icmp .le 13, 3) := by decide +kernel
theorem dX7_mostLeft_77 : decode cX7_mostLeft 77 = .ok (.aload_n 0, 1) := by decide +kernel
theorem dX7_mostLeft_78 : decode cX7_mostLeft 78 = .ok (.getfield 52, 3) := by decide +kernel
theorem dX7_mostLeft_81 : decode cX7_mostLeft 81 = .ok (.iload 4, 2) := by decide +kernel
theorem dX7_mostLeft_83 : decode cX7_mostLeft 83 = .ok (.iaload, 1) := by decide +kernel
theorem dX7_mostLeft_84 : decode cX7_mostLeft 84 = .ok (.goto 4, 3) := by decide +kernel
theorem dX7_mostLeft_87 : decode cX7_mostLeft 87 = .ok (.iload_n 2, 1) := by decide +kernel
theorem dX7_mostLeft_88 : decode cX7_mostLeft 88 = .ok (.istore_n 2, 1) := by decide +kernel
theorem dX7_mostLeft_89 : decode cX7_mostLeft 89 = .ok (.iinc 3 1, 3) := by decide +kernel
theorem dX7_mostLeft_92 : decode cX7_mostLeft 92 = .ok (.goto (-67), 3) := by decide +kernel
theorem dX7_mostLeft_95 : decode cX7_mostLeft 95 = .ok (.iload_n 2, 1) := by decide +kernel
theorem dX7_mostLeft_96 : decode cX7_mostLeft 96 = .ok (.ireturn, 1) := by decide +kernel
set_option maxRecDepth 20000 in
theorem ggX7_ask_X7_in : GoodIn wsX7_ask wsX7_in := goodIn_r _ [4] (by decide +kernel) (by decide +kernel)
set_option maxRecDepth 20000 in
theorem gX7_ask_X7_in : GoodIn wsX7_ask (va_wsS RX7 78 yX7_in wsX7_in) := goodIn_app (goodIn_of _ (by decide +kernel)) ggX7_ask_X7_in
set_option maxRecDepth 20000 in
theorem ggX7_ask_X7_mostLeft : GoodIn wsX7_ask wsX7_mostLeft := goodIn_r _ [8, 9, 10, 11, 12, 3, 13, 14, 15, 16, 17, 1, 2, 4, 18, 19, 20, 21, 22, 23, 24, 25, 26, 27, 28, 29, 30, 31, 32, 33, 34, 35, 36, 37, 38, 39, 40, 41, 42, 43, 44, 45, 46, 47, 48, 49, 50, 51, 52, 53, 54, 55, 56] (by decide +kernel) (by decide +kernel)
set_option maxRecDepth 20000 in
theorem gX7_ask_X7_mostLeft : GoodIn wsX7_ask (wsV RX7 252 RX7 yX7_mostLeft wsX7_mostLeft) := goodIn_app (goodIn_of _ (by decide +kernel)) ggX7_ask_X7_mostLeft
theorem dX7_ask_0 : decode cX7_ask 0 = .ok (.iload_n 1, 1) := by decide +kernel
theorem dX7_ask_1 : decode cX7_ask 1 = .ok (.i2l, 1) := by decide +kernel
theorem dX7_ask_2 : decode cX7_ask 2 = .ok (.lconst 0, 1) := by decide +kernel
theorem dX7_ask_3 : decode cX7_ask 3 = .ok (.lconst 1, 1) := by decide +kernel
theorem dX7_ask_4 : decode cX7_ask 4 = .ok (.invokestatic 78, 3) := by decide +kernel
theorem dX7_ask_7 : decode cX7_ask 7 = .ok (.ifCond .ne 6, 3) := by decide +kernel
theorem dX7_ask_10 : decode cX7_ask 10 = .ok (.bipush (-2), 2) := by decide +kernel
theorem dX7_ask_12 : decode cX7_ask 12 = .ok (.ireturn, 1) := by decide +kernel
theorem dX7_ask_13 : decode cX7_ask 13 = .ok (.iconst 0, 1) := by decide +kernel
theorem dX7_ask_14 : decode cX7_ask 14 = .ok (.istore_n 2, 1) := by decide +kernel
theorem dX7_ask_15 : decode cX7_ask 15 = .ok (.aload_n 0, 1) := by decide +kernel
theorem dX7_ask_16 : decode cX7_ask 16 = .ok (.iconst 0, 1) := by decide +kernel
theorem dX7_ask_17 : decode cX7_ask 17 = .ok (.invokevirtual 252, 3) := by decide +kernel
theorem dX7_ask_20 : decode cX7_ask 20 = .ok (.istore_n 3, 1) := by decide +kernel
theorem dX7_ask_21 : decode cX7_ask 21 = .ok (.iconst 1, 1) := by decide +kernel
theorem dX7_ask_22 : decode cX7_ask 22 = .ok (.istore 4, 2) := by decide +kernel
theorem dX7_ask_24 : decode cX7_ask 24 = .ok (.iload 4, 2) := by decide +kernel
theorem dX7_ask_26 : decode cX7_ask 26 = .ok (.bipush 40, 2) := by decide +kernel
theorem dX7_ask_28 : decode cX7_ask 28 = .ok (.if_icmp .gt 43, 3) := by decide +kernel
theorem dX7_ask_31 : decode cX7_ask 31 = .ok (.aload_n 0, 1) := by decide +kernel
theorem dX7_ask_32 : decode cX7_ask 32 = .ok (.iload 4, 2) := by decide +kernel
theorem dX7_ask_34 : decode cX7_ask 34 = .ok (.invokevirtual 252, 3) := by decide +kernel
theorem dX7_ask_37 : decode cX7_ask 37 = .ok (.istore 5, 2) := by decide +kernel
theorem dX7_ask_39 : decode cX7_ask 39 = .ok (.iload 5, 2) := by decide +kernel
theorem dX7_ask_41 : decode cX7_ask 41 = .ok (.iload_n 3, 1) := by decide +kernel
theorem dX7_ask_42 : decode cX7_ask 42 = .ok (.if_icmp .ge 8, 3) := by decide +kernel
theorem dX7_ask_45 : decode cX7_ask 45 = .ok (.iload 4, 2) := by decide +kernel
theorem dX7_ask_47 : decode cX7_ask 47 = .ok (.goto 4, 3) := by decide +kernel
theorem dX7_ask_50 : decode cX7_ask 50 = .ok (.iload_n 2, 1) := by decide +kernel
theorem dX7_ask_51 : decode cX7_ask 51 = .ok (.istore_n 2, 1) := by decide +kernel
theorem dX7_ask_52 : decode cX7_ask 52 = .ok (.iload 5, 2) := by decide +kernel
theorem dX7_ask_54 : decode cX7_ask 54 = .ok (.iload_n 3, 1) := by decide +kernel
theorem dX7_ask_55 : decode cX7_ask 55 = .ok (.if_icmp .ge 8, 3) := by decide +kernel
theorem dX7_ask_58 : decode cX7_ask 58 = .ok (.iload 5, 2) := by decide +kernel
theorem dX7_ask_60 : decode cX7_ask 60 = .ok (.goto 4, 3) := by decide +kernel
theorem dX7_ask_63 : decode cX7_ask 63 = .ok (.iload_n 3, 1) := by decide +kernel
theorem dX7_ask_64 : decode cX7_ask 64 = .ok (.istore_n 3, 1) := by decide +kernel
theorem dX7_ask_65 : decode cX7_ask 65 = .ok (.iinc 4 1, 3) := by decide +kernel
theorem dX7_ask_68 : decode cX7_ask 68 = .ok (.goto (-44), 3) := by decide +kernel
theorem dX7_ask_71 : decode cX7_ask 71 = .ok (.iload_n 3, 1) := by decide +kernel
theorem dX7_ask_72 : decode cX7_ask 72 = .ok (.ifCond .ne 8, 3) := by decide +kernel
theorem dX7_ask_75 : decode cX7_ask 75 = .ok (.bipush (-6), 2) := by decide +kernel
theorem dX7_ask_77 : decode cX7_ask 77 = .ok (.goto 12, 3) := by decide +kernel
theorem dX7_ask_80 : decode cX7_ask 80 = .ok (.iload_n 1, 1) := by decide +kernel
theorem dX7_ask_81 : decode cX7_ask 81 = .ok (.ifCond .ne 7, 3) := by decide +kernel
theorem dX7_ask_84 : decode cX7_ask 84 = .ok (.iload_n 2, 1) := by decide +kernel
theorem dX7_ask_85 : decode cX7_ask 85 = .ok (.goto 4, 3) := by decide +kernel
theorem dX7_ask_88 : decode cX7_ask 88 = .ok (.iload_n 3, 1) := by decide +kernel
theorem dX7_ask_89 : decode cX7_ask 89 = .ok (.ireturn, 1) := by decide +kernel
theorem dX7_oneHouse_0 : decode cX7_oneHouse 0 = .ok (.iconst 0, 1) := by decide +kernel
theorem dX7_oneHouse_1 : decode cX7_oneHouse 1 = .ok (.istore_n 3, 1) := by decide +kernel
theorem dX7_oneHouse_2 : decode cX7_oneHouse 2 = .ok (.iload_n 3, 1) := by decide +kernel
theorem dX7_oneHouse_3 : decode cX7_oneHouse 3 = .ok (.bipush 22, 2) := by decide +kernel
theorem dX7_oneHouse_5 : decode cX7_oneHouse 5 = .ok (.if_icmp .ge 16, 3) := by decide +kernel
theorem dX7_oneHouse_8 : decode cX7_oneHouse 8 = .ok (.aload_n 0, 1) := by decide +kernel
theorem dX7_oneHouse_9 : decode cX7_oneHouse 9 = .ok (.getfield 59, 3) := by decide +kernel
theorem dX7_oneHouse_12 : decode cX7_oneHouse 12 = .ok (.iload_n 3, 1) := by decide +kernel
theorem dX7_oneHouse_13 : decode cX7_oneHouse 13 = .ok (.lconst 0, 1) := by decide +kernel
theorem dX7_oneHouse_14 : decode cX7_oneHouse 14 = .ok (.lastore, 1) := by decide +kernel
theorem dX7_oneHouse_15 : decode cX7_oneHouse 15 = .ok (.iinc 3 1, 3) := by decide +kernel
theorem dX7_oneHouse_18 : decode cX7_oneHouse 18 = .ok (.goto (-16), 3) := by decide +kernel
theorem dX7_oneHouse_21 : decode cX7_oneHouse 21 = .ok (.iconst 0, 1) := by decide +kernel
theorem dX7_oneHouse_22 : decode cX7_oneHouse 22 = .ok (.istore_n 3, 1) := by decide +kernel
theorem dX7_oneHouse_23 : decode cX7_oneHouse 23 = .ok (.iload_n 3, 1) := by decide +kernel
theorem dX7_oneHouse_24 : decode cX7_oneHouse 24 = .ok (.bipush 10, 2) := by decide +kernel
theorem dX7_oneHouse_26 : decode cX7_oneHouse 26 = .ok (.if_icmp .ge 99, 3) := by decide +kernel
theorem dX7_oneHouse_29 : decode cX7_oneHouse 29 = .ok (.iload_n 1, 1) := by decide +kernel
theorem dX7_oneHouse_30 : decode cX7_oneHouse 30 = .ok (.i2l, 1) := by decide +kernel
theorem dX7_oneHouse_31 : decode cX7_oneHouse 31 = .ok (.aload_n 0, 1) := by decide +kernel
theorem dX7_oneHouse_32 : decode cX7_oneHouse 32 = .ok (.getfield 55, 3) := by decide +kernel
theorem dX7_oneHouse_35 : decode cX7_oneHouse 35 = .ok (.iconst 2, 1) := by decide +kernel
theorem dX7_oneHouse_36 : decode cX7_oneHouse 36 = .ok (.iload_n 3, 1) := by decide +kernel
theorem dX7_oneHouse_37 : decode cX7_oneHouse 37 = .ok (.imul, 1) := by decide +kernel
theorem dX7_oneHouse_38 : decode cX7_oneHouse 38 = .ok (.iconst 1, 1) := by decide +kernel
theorem dX7_oneHouse_39 : decode cX7_oneHouse 39 = .ok (.iadd, 1) := by decide +kernel
theorem dX7_oneHouse_40 : decode cX7_oneHouse 40 = .ok (.laload, 1) := by decide +kernel
theorem dX7_oneHouse_41 : decode cX7_oneHouse 41 = .ok (.lmul, 1) := by decide +kernel
theorem dX7_oneHouse_42 : decode cX7_oneHouse 42 = .ok (.iload_n 2, 1) := by decide +kernel
theorem dX7_oneHouse_43 : decode cX7_oneHouse 43 = .ok (.i2l, 1) := by decide +kernel
theorem dX7_oneHouse_44 : decode cX7_oneHouse 44 = .ok (.aload_n 0, 1) := by decide +kernel
theorem dX7_oneHouse_45 : decode cX7_oneHouse 45 = .ok (.getfield 55, 3) := by decide +kernel
theorem dX7_oneHouse_48 : decode cX7_oneHouse 48 = .ok (.iconst 2, 1) := by decide +kernel
theorem dX7_oneHouse_49 : decode cX7_oneHouse 49 = .ok (.iload_n 3, 1) := by decide +kernel
theorem dX7_oneHouse_50 : decode cX7_oneHouse 50 = .ok (.imul, 1) := by decide +kernel
theorem dX7_oneHouse_51 : decode cX7_oneHouse 51 = .ok (.laload, 1) := by decide +kernel
theorem dX7_oneHouse_52 : decode cX7_oneHouse 52 = .ok (.lmul, 1) := by decide +kernel
theorem dX7_oneHouse_53 : decode cX7_oneHouse 53 = .ok (.ladd, 1) := by decide +kernel
theorem dX7_oneHouse_54 : decode cX7_oneHouse 54 = .ok (.lstore 4, 2) := by decide +kernel
theorem dX7_oneHouse_56 : decode cX7_oneHouse 56 = .ok (.ldc2_w 82, 3) := by decide +kernel
theorem dX7_oneHouse_59 : decode cX7_oneHouse 59 = .ok (.iload_n 1, 1) := by decide +kernel
theorem dX7_oneHouse_60 : decode cX7_oneHouse 60 = .ok (.i2l, 1) := by decide +kernel
theorem dX7_oneHouse_61 : decode cX7_oneHouse 61 = .ok (.lsub, 1) := by decide +kernel
theorem dX7_oneHouse_62 : decode cX7_oneHouse 62 = .ok (.aload_n 0, 1) := by decide +kernel
theorem dX7_oneHouse_63 : decode cX7_oneHouse 63 = .ok (.getfield 55, 3) := by decide +kernel
theorem dX7_oneHouse_66 : decode cX7_oneHouse 66 = .ok (.iconst 2, 1) := by decide +kernel
theorem dX7_oneHouse_67 : decode cX7_oneHouse 67 = .ok (.iload_n 3, 1) := by decide +kernel
theorem dX7_oneHouse_68 : decode cX7_oneHouse 68 = .ok (.imul, 1) := by decide +kernel
theorem dX7_oneHouse_69 : decode cX7_oneHouse 69 = .ok (.iconst 1, 1) := by decide +kernel
theorem dX7_oneHouse_70 : decode cX7_oneHouse 70 = .ok (.iadd, 1) := by decide +kernel
theorem dX7_oneHouse_71 : decode cX7_oneHouse 71 = .ok (.laload, 1) := by decide +kernel
theorem dX7_oneHouse_72 : decode cX7_oneHouse 72 = .ok (.lmul, 1) := by decide +kernel
theorem dX7_oneHouse_73 : decode cX7_oneHouse 73 = .ok (.ldc2_w 82, 3) := by decide +kernel
theorem dX7_oneHouse_76 : decode cX7_oneHouse 76 = .ok (.iload_n 2, 1) := by decide +kernel
theorem dX7_oneHouse_77 : decode cX7_oneHouse 77 = .ok (.i2l, 1) := by decide +kernel
theorem dX7_oneHouse_78 : decode cX7_oneHouse 78 = .ok (.lsub, 1) := by decide +kernel
theorem dX7_oneHouse_79 : decode cX7_oneHouse 79 = .ok (.aload_n 0, 1) := by decide +kernel
theorem dX7_oneHouse_80 : decode cX7_oneHouse 80 = .ok (.getfield 55, 3) := by decide +kernel
theorem dX7_oneHouse_83 : decode cX7_oneHouse 83 = .ok (.iconst 2, 1) := by decide +kernel
theorem dX7_oneHouse_84 : decode cX7_oneHouse 84 = .ok (.iload_n 3, 1) := by decide +kernel
theorem dX7_oneHouse_85 : decode cX7_oneHouse 85 = .ok (.imul, 1) := by decide +kernel
theorem dX7_oneHouse_86 : decode cX7_oneHouse 86 = .ok (.laload, 1) := by decide +kernel
theorem dX7_oneHouse_87 : decode cX7_oneHouse 87 = .ok (.lmul, 1) := by decide +kernel
theorem dX7_oneHouse_88 : decode cX7_oneHouse 88 = .ok (.ladd, 1) := by decide +kernel
theorem dX7_oneHouse_89 : decode cX7_oneHouse 89 = .ok (.lstore 6, 2) := by decide +kernel
theorem dX7_oneHouse_91 : decode cX7_oneHouse 91 = .ok (.aload_n 0, 1) := by decide +kernel
theorem dX7_oneHouse_92 : decode cX7_oneHouse 92 = .ok (.getfield 59, 3) := by decide +kernel
theorem dX7_oneHouse_95 : decode cX7_oneHouse 95 = .ok (.iconst 2, 1) := by decide +kernel
theorem dX7_oneHouse_96 : decode cX7_oneHouse 96 = .ok (.iload_n 3, 1) := by decide +kernel
theorem dX7_oneHouse_97 : decode cX7_oneHouse 97 = .ok (.imul, 1) := by decide +kernel
theorem dX7_oneHouse_98 : decode cX7_oneHouse 98 = .ok (.iconst 3, 1) := by decide +kernel
theorem dX7_oneHouse_99 : decode cX7_oneHouse 99 = .ok (.iadd, 1) := by decide +kernel
theorem dX7_oneHouse_100 : decode cX7_oneHouse 100 = .ok (.dup2, 1) := by decide +kernel
theorem dX7_oneHouse_101 : decode cX7_oneHouse 101 = .ok (.laload, 1) := by decide +kernel
theorem dX7_oneHouse_102 : decode cX7_oneHouse 102 = .ok (.lload 4, 2) := by decide +kernel
theorem dX7_oneHouse_104 : decode cX7_oneHouse 104 = .ok (.ladd, 1) := by decide +kernel
theorem dX7_oneHouse_105 : decode cX7_oneHouse 105 = .ok (.lastore, 1) := by decide +kernel
theorem dX7_oneHouse_106 : decode cX7_oneHouse 106 = .ok (.aload_n 0, 1) := by decide +kernel
theorem dX7_oneHouse_107 : decode cX7_oneHouse 107 = .ok (.getfield 59, 3) := by decide +kernel
theorem dX7_oneHouse_110 : decode cX7_oneHouse 110 = .ok (.iconst 2, 1) := by decide +kernel
theorem dX7_oneHouse_111 : decode cX7_oneHouse 111 = .ok (.iload_n 3, 1) := by decide +kernel
theorem dX7_oneHouse_112 : decode cX7_oneHouse 112 = .ok (.imul, 1) := by decide +kernel
theorem dX7_oneHouse_113 : decode cX7_oneHouse 113 = .ok (.dup2, 1) := by decide +kernel
theorem dX7_oneHouse_114 : decode cX7_oneHouse 114 = .ok (.laload, 1) := by decide +kernel
theorem dX7_oneHouse_115 : decode cX7_oneHouse 115 = .ok (.lload 6, 2) := by decide +kernel
theorem dX7_oneHouse_117 : decode cX7_oneHouse 117 = .ok (.ladd, 1) := by decide +kernel
theorem dX7_oneHouse_118 : decode cX7_oneHouse 118 = .ok (.lastore, 1) := by decide +kernel
theorem dX7_oneHouse_119 : decode cX7_oneHouse 119 = .ok (.iinc 3 1, 3) := by decide +kernel
theorem dX7_oneHouse_122 : decode cX7_oneHouse 122 = .ok (.goto (-99), 3) := by decide +kernel
theorem dX7_oneHouse_125 : decode cX7_oneHouse 125 = .ok (.iconst 0, 1) := by decide +kernel
theorem dX7_oneHouse_126 : decode cX7_oneHouse 126 = .ok (.istore_n 3, 1) := by decide +kernel
theorem dX7_oneHouse_127 : decode cX7_oneHouse 127 = .ok (.iload_n 3, 1) := by decide +kernel
theorem dX7_oneHouse_128 : decode cX7_oneHouse 128 = .ok (.bipush 22, 2) := by decide +kernel
theorem dX7_oneHouse_130 : decode cX7_oneHouse 130 = .ok (.if_icmp .ge 21, 3) := by decide +kernel
theorem dX7_oneHouse_133 : decode cX7_oneHouse 133 = .ok (.aload_n 0, 1) := by decide +kernel
theorem dX7_oneHouse_134 : decode cX7_oneHouse 134 = .ok (.getfield 55, 3) := by decide +kernel
theorem dX7_oneHouse_137 : decode cX7_oneHouse 137 = .ok (.iload_n 3, 1) := by decide +kernel
theorem dX7_oneHouse_138 : decode cX7_oneHouse 138 = .ok (.aload_n 0, 1) := by decide +kernel
theorem dX7_oneHouse_139 : decode cX7_oneHouse 139 = .ok (.getfield 59, 3) := by decide +kernel
theorem dX7_oneHouse_142 : decode cX7_oneHouse 142 = .ok (.iload_n 3, 1) := by decide +kernel
theorem dX7_oneHouse_143 : decode cX7_oneHouse 143 = .ok (.laload, 1) := by decide +kernel
theorem dX7_oneHouse_144 : decode cX7_oneHouse 144 = .ok (.lastore, 1) := by decide +kernel
theorem dX7_oneHouse_145 : decode cX7_oneHouse 145 = .ok (.iinc 3 1, 3) := by decide +kernel
theorem dX7_oneHouse_148 : decode cX7_oneHouse 148 = .ok (.goto (-21), 3) := by decide +kernel
theorem dX7_oneHouse_151 : decode cX7_oneHouse 151 = .ok (.return_, 1) := by decide +kernel
theorem dX7_lowest_0 : decode cX7_lowest 0 = .ok (.lload_n 2, 1) := by decide +kernel
theorem dX7_lowest_1 : decode cX7_lowest 1 = .ok (.lstore 5, 2) := by decide +kernel
theorem dX7_lowest_3 : decode cX7_lowest 3 = .ok (.lload_n 0, 1) := by decide +kernel
theorem dX7_lowest_4 : decode cX7_lowest 4 = .ok (.lstore 7, 2) := by decide +kernel
theorem dX7_lowest_6 : decode cX7_lowest 6 = .ok (.lload 7, 2) := by decide +kernel
theorem dX7_lowest_8 : decode cX7_lowest 8 = .ok (.lconst 0, 1) := by decide +kernel
theorem dX7_lowest_9 : decode cX7_lowest 9 = .ok (.lcmp, 1) := by decide +kernel
theorem dX7_lowest_10 : decode cX7_lowest 10 = .ok (.ifCond .eq 21, 3) := by decide +kernel
theorem dX7_lowest_13 : decode cX7_lowest 13 = .ok (.lload 5, 2) := by decide +kernel
theorem dX7_lowest_15 : decode cX7_lowest 15 = .ok (.lload 7, 2) := by decide +kernel
theorem dX7_lowest_17 : decode cX7_lowest 17 = .ok (.lrem, 1) := by decide +kernel
theorem dX7_lowest_18 : decode cX7_lowest 18 = .ok (.lstore 9, 2) := by decide +kernel
theorem dX7_lowest_20 : decode cX7_lowest 20 = .ok (.lload 7, 2) := by decide +kernel
theorem dX7_lowest_22 : decode cX7_lowest 22 = .ok (.lstore 5, 2) := by decide +kernel
theorem dX7_lowest_24 : decode cX7_lowest 24 = .ok (.lload 9, 2) := by decide +kernel
theorem dX7_lowest_26 : decode cX7_lowest 26 = .ok (.lstore 7, 2) := by decide +kernel
theorem dX7_lowest_28 : decode cX7_lowest 28 = .ok (.goto (-22), 3) := by decide +kernel
theorem dX7_lowest_31 : decode cX7_lowest 31 = .ok (.iload 4, 2) := by decide +kernel
theorem dX7_lowest_33 : decode cX7_lowest 33 = .ok (.ifCond .ne 10, 3) := by decide +kernel
theorem dX7_lowest_36 : decode cX7_lowest 36 = .ok (.lload_n 0, 1) := by decide +kernel
theorem dX7_lowest_37 : decode cX7_lowest 37 = .ok (.lload 5, 2) := by decide +kernel
theorem dX7_lowest_39 : decode cX7_lowest 39 = .ok (.ldiv, 1) := by decide +kernel
theorem dX7_lowest_40 : decode cX7_lowest 40 = .ok (.goto 7, 3) := by decide +kernel
theorem dX7_lowest_43 : decode cX7_lowest 43 = .ok (.lload_n 2, 1) := by decide +kernel
theorem dX7_lowest_44 : decode cX7_lowest 44 = .ok (.lload 5, 2) := by decide +kernel
theorem dX7_lowest_46 : decode cX7_lowest 46 = .ok (.ldiv, 1) := by decide +kernel
theorem dX7_lowest_47 : decode cX7_lowest 47 = .ok (.lreturn, 1) := by decide +kernel
set_option maxRecDepth 20000 in
theorem ggX7_isRow_X7_in : GoodIn wsX7_isRow wsX7_in := goodIn_r _ [5] (by decide +kernel) (by decide +kernel)
set_option maxRecDepth 20000 in
theorem gX7_isRow_X7_in : GoodIn wsX7_isRow (va_wsS RX7 78 yX7_in wsX7_in) := goodIn_app (goodIn_of _ (by decide +kernel)) ggX7_isRow_X7_in
theorem dX7_isRow_0 : decode cX7_isRow 0 = .ok (.iload_n 0, 1) := by decide +kernel
theorem dX7_isRow_1 : decode cX7_isRow 1 = .ok (.i2l, 1) := by decide +kernel
theorem dX7_isRow_2 : decode cX7_isRow 2 = .ok (.lconst 0, 1) := by decide +kernel
theorem dX7_isRow_3 : decode cX7_isRow 3 = .ok (.ldc2_w 82, 3) := by decide +kernel
theorem dX7_isRow_6 : decode cX7_isRow 6 = .ok (.invokestatic 78, 3) := by decide +kernel
theorem dX7_isRow_9 : decode cX7_isRow 9 = .ok (.ifCond .eq 42, 3) := by decide +kernel
theorem dX7_isRow_12 : decode cX7_isRow 12 = .ok (.iload_n 1, 1) := by decide +kernel
theorem dX7_isRow_13 : decode cX7_isRow 13 = .ok (.i2l, 1) := by decide +kernel
theorem dX7_isRow_14 : decode cX7_isRow 14 = .ok (.lconst 0, 1) := by decide +kernel
theorem dX7_isRow_15 : decode cX7_isRow 15 = .ok (.ldc2_w 82, 3) := by decide +kernel
theorem dX7_isRow_18 : decode cX7_isRow 18 = .ok (.invokestatic 78, 3) := by decide +kernel
theorem dX7_isRow_21 : decode cX7_isRow 21 = .ok (.ifCond .eq 30, 3) := by decide +kernel
theorem dX7_isRow_24 : decode cX7_isRow 24 = .ok (.iload_n 2, 1) := by decide +kernel
theorem dX7_isRow_25 : decode cX7_isRow 25 = .ok (.i2l, 1) := by decide +kernel
theorem dX7_isRow_26 : decode cX7_isRow 26 = .ok (.lconst 0, 1) := by decide +kernel
theorem dX7_isRow_27 : decode cX7_isRow 27 = .ok (.ldc2_w 82, 3) := by decide +kernel
theorem dX7_isRow_30 : decode cX7_isRow 30 = .ok (.invokestatic 78, 3) := by decide +kernel
theorem dX7_isRow_33 : decode cX7_isRow 33 = .ok (.ifCond .eq 18, 3) := by decide +kernel
theorem dX7_isRow_36 : decode cX7_isRow 36 = .ok (.iload_n 3, 1) := by decide +kernel
theorem dX7_isRow_37 : decode cX7_isRow 37 = .ok (.i2l, 1) := by decide +kernel
theorem dX7_isRow_38 : decode cX7_isRow 38 = .ok (.lconst 0, 1) := by decide +kernel
theorem dX7_isRow_39 : decode cX7_isRow 39 = .ok (.iload_n 0, 1) := by decide +kernel
theorem dX7_isRow_40 : decode cX7_isRow 40 = .ok (.i2l, 1) := by decide +kernel
theorem dX7_isRow_41 : decode cX7_isRow 41 = .ok (.invokestatic 78, 3) := by decide +kernel
theorem dX7_isRow_44 : decode cX7_isRow 44 = .ok (.ifCond .eq 7, 3) := by decide +kernel
theorem dX7_isRow_47 : decode cX7_isRow 47 = .ok (.iconst 1, 1) := by decide +kernel
theorem dX7_isRow_48 : decode cX7_isRow 48 = .ok (.goto 4, 3) := by decide +kernel
theorem dX7_isRow_51 : decode cX7_isRow 51 = .ok (.iconst 0, 1) := by decide +kernel
theorem dX7_isRow_52 : decode cX7_isRow 52 = .ok (.ireturn, 1) := by decide +kernel
set_option maxRecDepth 20000 in
theorem ggX7_row_X7_isRow : GoodIn wsX7_row wsX7_isRow := goodIn_r _ [8, 4, 9, 10, 7, 11] (by decide +kernel) (by decide +kernel)
set_option maxRecDepth 20000 in
theorem gX7_row_X7_isRow : GoodIn wsX7_row (va_wsS RX7 255 yX7_isRow wsX7_isRow) := goodIn_app (goodIn_of _ (by decide +kernel)) ggX7_row_X7_isRow
set_option maxRecDepth 20000 in
theorem ggX7_row_X7_in : GoodIn wsX7_row wsX7_in := goodIn_r _ [11] (by decide +kernel) (by decide +kernel)
set_option maxRecDepth 20000 in
theorem gX7_row_X7_in : GoodIn wsX7_row (va_wsS RX7 78 yX7_in wsX7_in) := goodIn_app (goodIn_of _ (by decide +kernel)) ggX7_row_X7_in
set_option maxRecDepth 20000 in
theorem ggX7_row_X7_oneHouse : GoodIn wsX7_row wsX7_oneHouse := goodIn_r _ [15, 16, 3, 4, 20, 21, 22, 23, 24, 25, 26, 27, 28, 29, 30, 31, 32, 33, 34, 35, 36, 37, 38, 39, 40, 41, 42, 43, 44, 45, 46, 47, 48, 49, 50, 51, 52, 53] (by decide +kernel) (by decide +kernel)
set_option maxRecDepth 20000 in
theorem gX7_row_X7_oneHouse : GoodIn wsX7_row (wsV RX7 261 RX7 yX7_oneHouse wsX7_oneHouse) := goodIn_app (goodIn_of _ (by decide +kernel)) ggX7_row_X7_oneHouse
set_option maxRecDepth 20000 in
theorem ggX7_row_X7_lowest : GoodIn wsX7_row wsX7_lowest := goodIn_r _ [19] (by decide +kernel) (by decide +kernel)
set_option maxRecDepth 20000 in
theorem gX7_row_X7_lowest : GoodIn wsX7_row (va_wsS RX7 264 yX7_lowest wsX7_lowest) := goodIn_app (goodIn_of _ (by decide +kernel)) ggX7_row_X7_lowest
theorem dX7_row_0 : decode cX7_row 0 = .ok (.iload_n 1, 1) := by decide +kernel
theorem dX7_row_1 : decode cX7_row 1 = .ok (.iload_n 2, 1) := by decide +kernel
theorem dX7_row_2 : decode cX7_row 2 = .ok (.iload_n 3, 1) := by decide +kernel
theorem dX7_row_3 : decode cX7_row 3 = .ok (.iload 4, 2) := by decide +kernel
theorem dX7_row_5 : decode cX7_row 5 = .ok (.invokestatic 255, 3) := by decide +kernel
theorem dX7_row_8 : decode cX7_row 8 = .ok (.ifCond .eq 27, 3) := by decide +kernel
theorem dX7_row_11 : decode cX7_row 11 = .ok (.iload 5, 2) := by decide +kernel
theorem dX7_row_13 : decode cX7_row 13 = .ok (.i2l, 1) := by decide +kernel
theorem dX7_row_14 : decode cX7_row 14 = .ok (.lconst 0, 1) := by decide +kernel
theorem dX7_row_15 : decode cX7_row 15 = .ok (.ldc2_w 191, 3) := by decide +kernel
theorem dX7_row_18 : decode cX7_row 18 = .ok (.invokestatic 78, 3) := by decide +kernel
theorem dX7_row_21 : decode cX7_row 21 = .ok (.ifCond .eq 14, 3) := by decide +kernel
theorem dX7_row_24 : decode cX7_row 24 = .ok (.iload 6, 2) := by decide +kernel
theorem dX7_row_26 : decode cX7_row 26 = .ok (.i2l, 1) := by decide +kernel
theorem dX7_row_27 : decode cX7_row 27 = .ok (.lconst 0, 1) := by decide +kernel
theorem dX7_row_28 : decode cX7_row 28 = .ok (.lconst 1, 1) := by decide +kernel
theorem dX7_row_29 : decode cX7_row 29 = .ok (.invokestatic 78, 3) := by decide +kernel
theorem dX7_row_32 : decode cX7_row 32 = .ok (.ifCond .ne 7, 3) := by decide +kernel
theorem dX7_row_35 : decode cX7_row 35 = .ok (.ldc2_w 259, 3) := by decide +kernel
theorem dX7_row_38 : decode cX7_row 38 = .ok (.lreturn, 1) := by decide +kernel
theorem dX7_row_39 : decode cX7_row 39 = .ok (.iconst 0, 1) := by decide +kernel
theorem dX7_row_40 : decode cX7_row 40 = .ok (.istore 7, 2) := by decide +kernel
theorem dX7_row_42 : decode cX7_row 42 = .ok (.iload 7, 2) := by decide +kernel
theorem dX7_row_44 : decode cX7_row 44 = .ok (.bipush 22, 2) := by decide +kernel
theorem dX7_row_46 : decode cX7_row 46 = .ok (.if_icmp .ge 17, 3) := by decide +kernel
theorem dX7_row_49 : decode cX7_row 49 = .ok (.aload_n 0, 1) := by decide +kernel
theorem dX7_row_50 : decode cX7_row 50 = .ok (.getfield 55, 3) := by decide +kernel
theorem dX7_row_53 : decode cX7_row 53 = .ok (.iload 7, 2) := by decide +kernel
theorem dX7_row_55 : decode cX7_row 55 = .ok (.lconst 0, 1) := by decide +kernel
theorem dX7_row_56 : decode cX7_row 56 = .ok (.lastore, 1) := by decide +kernel
theorem dX7_row_57 : decode cX7_row 57 = .ok (.iinc 7 1, 3) := by decide +kernel
theorem dX7_row_60 : decode cX7_row 60 = .ok (.goto (-18), 3) := by decide +kernel
theorem dX7_row_63 : decode cX7_row 63 = .ok (.aload_n 0, 1) := by decide +kernel
theorem dX7_row_64 : decode cX7_row 64 = .ok (.getfield 55, 3) := by decide +kernel
theorem dX7_row_67 : decode cX7_row 67 = .ok (.iconst 1, 1) := by decide +kernel
theorem dX7_row_68 : decode cX7_row 68 = .ok (.lconst 1, 1) := by decide +kernel
theorem dX7_row_69 : decode cX7_row 69 = .ok (.lastore, 1) := by decide +kernel
theorem dX7_row_70 : decode cX7_row 70 = .ok (.lconst 1, 1) := by decide +kernel
theorem dX7_row_71 : decode cX7_row 71 = .ok (.lstore 7, 2) := by decide +kernel
theorem dX7_row_73 : decode cX7_row 73 = .ok (.iconst 0, 1) := by decide +kernel
theorem dX7_row_74 : decode cX7_row 74 = .ok (.istore 9, 2) := by decide +kernel
theorem dX7_row_76 : decode cX7_row 76 = .ok (.iload 9, 2) := by decide +kernel
theorem dX7_row_78 : decode cX7_row 78 = .ok (.iload_n 1, 1) := by decide +kernel
theorem dX7_row_79 : decode cX7_row 79 = .ok (.if_icmp .ge 23, 3) := by decide +kernel
theorem dX7_row_82 : decode cX7_row 82 = .ok (.aload_n 0, 1) := by decide +kernel
theorem dX7_row_83 : decode cX7_row 83 = .ok (.iload_n 2, 1) := by decide +kernel
theorem dX7_row_84 : decode cX7_row 84 = .ok (.iload_n 3, 1) := by decide +kernel
theorem dX7_row_85 : decode cX7_row 85 = .ok (.invokevirtual 261, 3) := by decide +kernel
theorem dX7_row_88 : decode cX7_row 88 = .ok (.lload 7, 2) := by decide +kernel
theorem dX7_row_90 : decode cX7_row 90 = .ok (.ldc2_w 82, 3) := by decide +kernel
theorem dX7_row_93 : decode cX7_row 93 = .ok (.lmul, 1) := by decide +kernel
theorem dX7_row_94 : decode cX7_row 94 = .ok (.lstore 7, 2) := by decide +kernel
theorem dX7_row_96 : decode cX7_row 96 = .ok (.iinc 9 1, 3) := by decide +kernel
theorem dX7_row_99 : decode cX7_row 99 = .ok (.goto (-23), 3) := by decide +kernel
theorem dX7_row_102 : decode cX7_row 102 = .ok (.lconst 0, 1) := by decide +kernel
theorem dX7_row_103 : decode cX7_row 103 = .ok (.lstore 9, 2) := by decide +kernel
theorem dX7_row_105 : decode cX7_row 105 = .ok (.iconst 0, 1) := by decide +kernel
theorem dX7_row_106 : decode cX7_row 106 = .ok (.istore 11, 2) := by decide +kernel
theorem dX7_row_108 : decode cX7_row 108 = .ok (.iload 11, 2) := by decide +kernel
theorem dX7_row_110 : decode cX7_row 110 = .ok (.iload_n 1, 1) := by decide +kernel
theorem dX7_row_111 : decode cX7_row 111 = .ok (.if_icmp .gt 97, 3) := by decide +kernel
theorem dX7_row_114 : decode cX7_row 114 = .ok (.aload_n 0, 1) := by decide +kernel
theorem dX7_row_115 : decode cX7_row 115 = .ok (.getfield 55, 3) := by decide +kernel
theorem dX7_row_118 : decode cX7_row 118 = .ok (.iconst 2, 1) := by decide +kernel
theorem dX7_row_119 : decode cX7_row 119 = .ok (.iload 11, 2) := by decide +kernel
theorem dX7_row_121 : decode cX7_row 121 = .ok (.imul, 1) := by decide +kernel
theorem dX7_row_122 : decode cX7_row 122 = .ok (.laload, 1) := by decide +kernel
theorem dX7_row_123 : decode cX7_row 123 = .ok (.aload_n 0, 1) := by decide +kernel
theorem dX7_row_124 : decode cX7_row 124 = .ok (.getfield 55, 3) := by decide +kernel
theorem dX7_row_127 : decode cX7_row 127 = .ok (.iconst 2, 1) := by decide +kernel
theorem dX7_row_128 : decode cX7_row 128 = .ok (.iload 11, 2) := by decide +kernel
theorem dX7_row_130 : decode cX7_row 130 = .ok (.imul, 1) := by decide +kernel
theorem dX7_row_131 : decode cX7_row 131 = .ok (.iconst 1, 1) := by decide +kernel
theorem dX7_row_132 : decode cX7_row 132 = .ok (.iadd, 1) := by decide +kernel
theorem dX7_row_133 : decode cX7_row 133 = .ok (.laload, 1) := by decide +kernel
theorem dX7_row_134 : decode cX7_row 134 = .ok (.ladd, 1) := by decide +kernel
theorem dX7_row_135 : decode cX7_row 135 = .ok (.lstore 12, 2) := by decide +kernel
theorem dX7_row_137 : decode cX7_row 137 = .ok (.iload 5, 2) := by decide +kernel
theorem dX7_row_139 : decode cX7_row 139 = .ok (.ifCond .ne 18, 3) := by decide +kernel
theorem dX7_row_142 : decode cX7_row 142 = .ok (.iload 11, 2) := by decide +kernel
theorem dX7_row_144 : decode cX7_row 144 = .ok (.iload 4, 2) := by decide +kernel
theorem dX7_row_146 : decode cX7_row 146 = .ok (.if_icmp .ne 7, 3) := by decide +kernel
theorem dX7_row_149 : decode cX7_row 149 = .ok (.iconst 1, 1) := by decide +kernel
theorem dX7_row_150 : decode cX7_row 150 = .ok (.goto 19, 3) := by decide +kernel
theorem dX7_row_153 : decode cX7_row 153 = .ok (.iconst 0, 1) := by decide +kernel
theorem dX7_row_154 : decode cX7_row 154 = .ok (.goto 15, 3) := by decide +kernel
theorem dX7_row_157 : decode cX7_row 157 = .ok (.iload 11, 2) := by decide +kernel
theorem dX7_row_159 : decode cX7_row 159 = .ok (.iload 4, 2) := by decide +kernel
theorem dX7_row_161 : decode cX7_row 161 = .ok (.if_icmp .lt 7, 3) := by decide +kernel
theorem dX7_row_164 : decode cX7_row 164 = .ok (.iconst 1, 1) := by decide +kernel
theorem dX7_row_165 : decode cX7_row 165 = .ok (.goto 4, 3) := by decide +kernel
theorem dX7_row_168 : decode cX7_row 168 = .ok (.iconst 0, 1) := by decide +kernel
theorem dX7_row_169 : decode cX7_row 169 = .ok (.istore 14, 2) := by decide +kernel
theorem dX7_row_171 : decode cX7_row 171 = .ok (.lload 9, 2) := by decide +kernel
theorem dX7_row_173 : decode cX7_row 173 = .ok (.iload 5, 2) := by decide +kernel
theorem dX7_row_175 : decode cX7_row 175 = .ok (.iconst 2, 1) := by decide +kernel
theorem dX7_row_176 : decode cX7_row 176 = .ok (.if_icmp .ne 12, 3) := by decide +kernel
theorem dX7_row_179 : decode cX7_row 179 = .ok (.iload 11, 2) := by decide +kernel
theorem dX7_row_181 : decode cX7_row 181 = .ok (.i2l, 1) := by decide +kernel
theorem dX7_row_182 : decode cX7_row 182 = .ok (.lload 12, 2) := by decide +kernel
theorem dX7_row_184 : decode cX7_row 184 = .ok (.lmul, 1) := by decide +kernel
theorem dX7_row_185 : decode cX7_row 185 = .ok (.goto 14, 3) := by decide +kernel
theorem dX7_row_188 : decode cX7_row 188 = .ok (.iload 14, 2) := by decide +kernel
theorem dX7_row_190 : decode cX7_row 190 = .ok (.ifCond .eq 8, 3) := by decide +kernel
theorem dX7_row_193 : decode cX7_row 193 = .ok (.lload 12, 2) := by decide +kernel
theorem dX7_row_195 : decode cX7_row 195 = .ok (.goto 4, 3) := by decide +kernel
theorem dX7_row_198 : decode cX7_row 198 = .ok (.lconst 0, 1) := by decide +kernel
theorem dX7_row_199 : decode cX7_row 199 = .ok (.ladd, 1) := by decide +kernel
theorem dX7_row_200 : decode cX7_row 200 = .ok (.lstore 9, 2) := by decide +kernel
theorem dX7_row_202 : decode cX7_row 202 = .ok (.iinc 11 1, 3) := by decide +kernel
theorem dX7_row_205 : decode cX7_row 205 = .ok (.goto (-97), 3) := by decide +kernel
theorem dX7_row_208 : decode cX7_row 208 = .ok (.lload 9, 2) := by decide +kernel
theorem dX7_row_210 : decode cX7_row 210 = .ok (.lload 7, 2) := by decide +kernel
theorem dX7_row_212 : decode cX7_row 212 = .ok (.iload 6, 2) := by decide +kernel
theorem dX7_row_214 : decode cX7_row 214 = .ok (.invokestatic 264, 3) := by decide +kernel
theorem dX7_row_217 : decode cX7_row 217 = .ok (.lreturn, 1) := by decide +kernel
theorem dX7_winsBy_0 : decode cX7_winsBy 0 = .ok (.iconst 2, 1) := by decide +kernel
theorem dX7_winsBy_1 : decode cX7_winsBy 1 = .ok (.iload_n 2, 1) := by decide +kernel
theorem dX7_winsBy_2 : decode cX7_winsBy 2 = .ok (.imul, 1) := by decide +kernel
theorem dX7_winsBy_3 : decode cX7_winsBy 3 = .ok (.iload_n 1, 1) := by decide +kernel
theorem dX7_winsBy_4 : decode cX7_winsBy 4 = .ok (.iload_n 2, 1) := by decide +kernel
theorem dX7_winsBy_5 : decode cX7_winsBy 5 = .ok (.isub, 1) := by decide +kernel
theorem dX7_winsBy_6 : decode cX7_winsBy 6 = .ok (.if_icmp .ge 9, 3) := by decide +kernel
theorem dX7_winsBy_9 : decode cX7_winsBy 9 = .ok (.iconst 2, 1) := by decide +kernel
theorem dX7_winsBy_10 : decode cX7_winsBy 10 = .ok (.iload_n 2, 1) := by decide +kernel
theorem dX7_winsBy_11 : decode cX7_winsBy 11 = .ok (.imul, 1) := by decide +kernel
theorem dX7_winsBy_12 : decode cX7_winsBy 12 = .ok (.goto 6, 3) := by decide +kernel
theorem dX7_winsBy_15 : decode cX7_winsBy 15 = .ok (.iload_n 1, 1) := by decide +kernel
theorem dX7_winsBy_16 : decode cX7_winsBy 16 = .ok (.iload_n 2, 1) := by decide +kernel
theorem dX7_winsBy_17 : decode cX7_winsBy 17 = .ok (.isub, 1) := by decide +kernel
theorem dX7_winsBy_18 : decode cX7_winsBy 18 = .ok (.istore_n 3, 1) := by decide +kernel
theorem dX7_winsBy_19 : decode cX7_winsBy 19 = .ok (.iload_n 2, 1) := by decide +kernel
theorem dX7_winsBy_20 : decode cX7_winsBy 20 = .ok (.iload_n 1, 1) := by decide +kernel
theorem dX7_winsBy_21 : decode cX7_winsBy 21 = .ok (.if_icmp .eq 19, 3) := by decide +kernel
theorem dX7_winsBy_24 : decode cX7_winsBy 24 = .ok (.aload_n 0, 1) := by decide +kernel
theorem dX7_winsBy_25 : decode cX7_winsBy 25 = .ok (.getfield 62, 3) := by decide +kernel
theorem dX7_winsBy_28 : decode cX7_winsBy 28 = .ok (.bipush 61, 2) := by decide +kernel
theorem dX7_winsBy_30 : decode cX7_winsBy 30 = .ok (.iload_n 1, 1) := by decide +kernel
theorem dX7_winsBy_31 : decode cX7_winsBy 31 = .ok (.iload_n 2, 1) := by decide +kernel
theorem dX7_winsBy_32 : decode cX7_winsBy 32 = .ok (.isub, 1) := by decide +kernel
theorem dX7_winsBy_33 : decode cX7_winsBy 33 = .ok (.imul, 1) := by decide +kernel
theorem dX7_winsBy_34 : decode cX7_winsBy 34 = .ok (.iload_n 3, 1) := by decide +kernel
theorem dX7_winsBy_35 : decode cX7_winsBy 35 = .ok (.iadd, 1) := by decide +kernel
theorem dX7_winsBy_36 : decode cX7_winsBy 36 = .ok (.baload, 1) := by decide +kernel
theorem dX7_winsBy_37 : decode cX7_winsBy 37 = .ok (.ifCond .ne 7, 3) := by decide +kernel
theorem dX7_winsBy_40 : decode cX7_winsBy 40 = .ok (.iconst 1, 1) := by decide +kernel
theorem dX7_winsBy_41 : decode cX7_winsBy 41 = .ok (.goto 4, 3) := by decide +kernel
theorem dX7_winsBy_44 : decode cX7_winsBy 44 = .ok (.iconst 0, 1) := by decide +kernel
theorem dX7_winsBy_45 : decode cX7_winsBy 45 = .ok (.ireturn, 1) := by decide +kernel
set_option maxRecDepth 20000 in
theorem ggX7_findWins_X7_winsBy : GoodIn wsX7_findWins wsX7_winsBy := goodIn_r _ [6, 1, 7, 8, 9, 10, 11, 12, 13, 14, 15, 16, 17, 18, 19, 20, 21, 22, 23, 24, 25, 26, 27, 28, 29, 30, 31, 32, 33, 34, 35, 36, 37, 38, 39, 40] (by decide +kernel) (by decide +kernel)
set_option maxRecDepth 20000 in
theorem gX7_findWins_X7_winsBy : GoodIn wsX7_findWins (wsV RX7 268 RX7 yX7_winsBy wsX7_winsBy) := goodIn_app (goodIn_of _ (by decide +kernel)) ggX7_findWins_X7_winsBy
theorem dX7_findWins_0 : decode cX7_findWins 0 = .ok (.iconst 0, 1) := by decide +kernel
theorem dX7_findWins_1 : decode cX7_findWins 1 = .ok (.istore_n 2, 1) := by decide +kernel
theorem dX7_findWins_2 : decode cX7_findWins 2 = .ok (.iload_n 2, 1) := by decide +kernel
theorem dX7_findWins_3 : decode cX7_findWins 3 = .ok (.iload_n 1, 1) := by decide +kernel
theorem dX7_findWins_4 : decode cX7_findWins 4 = .ok (.if_icmp .gt 73, 3) := by decide +kernel
theorem dX7_findWins_7 : decode cX7_findWins 7 = .ok (.aload_n 0, 1) := by decide +kernel
theorem dX7_findWins_8 : decode cX7_findWins 8 = .ok (.getfield 62, 3) := by decide +kernel
theorem dX7_findWins_11 : decode cX7_findWins 11 = .ok (.bipush 61, 2) := by decide +kernel
theorem dX7_findWins_13 : decode cX7_findWins 13 = .ok (.iload_n 2, 1) := by decide +kernel
theorem dX7_findWins_14 : decode cX7_findWins 14 = .ok (.imul, 1) := by decide +kernel
theorem dX7_findWins_15 : decode cX7_findWins 15 = .ok (.iconst 0, 1) := by decide +kernel
theorem dX7_findWins_16 : decode cX7_findWins 16 = .ok (.bastore, 1) := by decide +kernel
theorem dX7_findWins_17 : decode cX7_findWins 17 = .ok (.iconst 1, 1) := by decide +kernel
theorem dX7_findWins_18 : decode cX7_findWins 18 = .ok (.istore_n 3, 1) := by decide +kernel
theorem dX7_findWins_19 : decode cX7_findWins 19 = .ok (.iload_n 3, 1) := by decide +kernel
theorem dX7_findWins_20 : decode cX7_findWins 20 = .ok (.iload_n 2, 1) := by decide +kernel
theorem dX7_findWins_21 : decode cX7_findWins 21 = .ok (.if_icmp .gt 50, 3) := by decide +kernel
theorem dX7_findWins_24 : decode cX7_findWins 24 = .ok (.aload_n 0, 1) := by decide +kernel
theorem dX7_findWins_25 : decode cX7_findWins 25 = .ok (.getfield 62, 3) := by decide +kernel
theorem dX7_findWins_28 : decode cX7_findWins 28 = .ok (.bipush 61, 2) := by decide +kernel
theorem dX7_findWins_30 : decode cX7_findWins 30 = .ok (.iload_n 2, 1) := by decide +kernel
theorem dX7_findWins_31 : decode cX7_findWins 31 = .ok (.imul, 1) := by decide +kernel
theorem dX7_findWins_32 : decode cX7_findWins 32 = .ok (.iload_n 3, 1) := by decide +kernel
theorem dX7_findWins_33 : decode cX7_findWins 33 = .ok (.iadd, 1) := by decide +kernel
theorem dX7_findWins_34 : decode cX7_findWins 34 = .ok (.aload_n 0, 1) := by decide +kernel
theorem dX7_findWins_35 : decode cX7_findWins 35 = .ok (.getfield 62, 3) := by decide +kernel
theorem dX7_findWins_38 : decode cX7_findWins 38 = .ok (.bipush 61, 2) := by decide +kernel
theorem dX7_findWins_40 : decode cX7_findWins 40 = .ok (.iload_n 2, 1) := by decide +kernel
theorem dX7_findWins_41 : decode cX7_findWins 41 = .ok (.imul, 1) := by decide +kernel
theorem dX7_findWins_42 : decode cX7_findWins 42 = .ok (.iload_n 3, 1) := by decide +kernel
theorem dX7_findWins_43 : decode cX7_findWins 43 = .ok (.iadd, 1) := by decide +kernel
theorem dX7_findWins_44 : decode cX7_findWins 44 = .ok (.iconst 1, 1) := by decide +kernel
theorem dX7_findWins_45 : decode cX7_findWins 45 = .ok (.isub, 1) := by decide +kernel
theorem dX7_findWins_46 : decode cX7_findWins 46 = .ok (.baload, 1) := by decide +kernel
theorem dX7_findWins_47 : decode cX7_findWins 47 = .ok (.ifCond .ne 12, 3) := by decide +kernel
theorem dX7_findWins_50 : decode cX7_findWins 50 = .ok (.aload_n 0, 1) := by decide +kernel
theorem dX7_findWins_51 : decode cX7_findWins 51 = .ok (.iload_n 2, 1) := by decide +kernel
theorem dX7_findWins_52 : decode cX7_findWins 52 = .ok (.iload_n 3, 1) := by decide +kernel
theorem dX7_findWins_53 : decode cX7_findWins 53 = .ok (.invokevirtual 268, 3) := by decide +kernel
theorem dX7_findWins_56 : decode cX7_findWins 56 = .ok (.ifCond .eq 7, 3) := by decide +kernel
theorem dX7_findWins_59 : decode cX7_findWins 59 = .ok (.iconst 1, 1) := by decide +kernel
theorem dX7_findWins_60 : decode cX7_findWins 60 = .ok (.goto 4, 3) := by decide +kernel
theorem dX7_findWins_63 : decode cX7_findWins 63 = .ok (.iconst 0, 1) := by decide +kernel
theorem dX7_findWins_64 : decode cX7_findWins 64 = .ok (.bastore, 1) := by decide +kernel
theorem dX7_findWins_65 : decode cX7_findWins 65 = .ok (.iinc 3 1, 3) := by decide +kernel
theorem dX7_findWins_68 : decode cX7_findWins 68 = .ok (.goto (-49), 3) := by decide +kernel
theorem dX7_findWins_71 : decode cX7_findWins 71 = .ok (.iinc 2 1, 3) := by decide +kernel
theorem dX7_findWins_74 : decode cX7_findWins 74 = .ok (.goto (-72), 3) := by decide +kernel
theorem dX7_findWins_77 : decode cX7_findWins 77 = .ok (.return_, 1) := by decide +kernel
set_option maxRecDepth 20000 in
theorem ggX7_embers_X7_in : GoodIn wsX7_embers wsX7_in := goodIn_r _ [5] (by decide +kernel) (by decide +kernel)
set_option maxRecDepth 20000 in
theorem gX7_embers_X7_in : GoodIn wsX7_embers (va_wsS RX7 78 yX7_in wsX7_in) := goodIn_app (goodIn_of _ (by decide +kernel)) ggX7_embers_X7_in
set_option maxRecDepth 20000 in
theorem ggX7_embers_X7_findWins : GoodIn wsX7_embers wsX7_findWins := goodIn_r _ [9, 10, 11, 12, 13, 4, 14, 15, 16, 17, 18, 19, 20, 21, 22, 23, 24, 25, 26, 27, 28, 29, 30, 31, 32, 33, 34, 35, 36, 37, 38, 39, 40, 41, 42, 43, 44, 45, 46, 47, 48] (by decide +kernel) (by decide +kernel)
set_option maxRecDepth 20000 in
theorem gX7_embers_X7_findWins : GoodIn wsX7_embers (wsV RX7 273 RX7 yX7_findWins wsX7_findWins) := goodIn_app (goodIn_of _ (by decide +kernel)) ggX7_embers_X7_findWins
set_option maxRecDepth 20000 in
theorem ggX7_embers_X7_winsBy : GoodIn wsX7_embers wsX7_winsBy := goodIn_r _ [14, 10, 15, 16, 17, 18, 19, 20, 21, 22, 23, 24, 25, 26, 27, 28, 29, 30, 31, 32, 33, 34, 35, 36, 37, 38, 39, 40, 41, 42, 43, 44, 45, 46, 47, 48] (by decide +kernel) (by decide +kernel)
set_option maxRecDepth 20000 in
theorem gX7_embers_X7_winsBy : GoodIn wsX7_embers (wsV RX7 268 RX7 yX7_winsBy wsX7_winsBy) := goodIn_app (goodIn_of _ (by decide +kernel)) ggX7_embers_X7_winsBy
theorem dX7_embers_0 : decode cX7_embers 0 = .ok (.iload_n 1, 1) := by decide +kernel
theorem dX7_embers_1 : decode cX7_embers 1 = .ok (.i2l, 1) := by decide +kernel
theorem dX7_embers_2 : decode cX7_embers 2 = .ok (.lconst 1, 1) := by decide +kernel
theorem dX7_embers_3 : decode cX7_embers 3 = .ok (.ldc2_w 271, 3) := by decide +kernel
