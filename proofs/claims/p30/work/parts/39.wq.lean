set_option maxHeartbeats 8000000 in
set_option maxRecDepth 100000 in
theorem gs_1004 {p : Program} {l : Launch} {e : Env} {s : State} {m : MethodId} {below : List Frame} {meth : Method} {c : Code} {b : Nat} {g : GT} {Z : Nat → Prop} {H : Heap} {locs : List Loc} {ls : Array Slot} {qH qX : Nat} {AX AC AD AP AW AY AK : Nat → Nat} {L : Nat} {xs : Nat → Int32} {σC : qS} {σD : qS} {σP : qS} {σN : qS} {σW : qS} {σY : qS} {σK : qS} {ℓK : qL} {σH : qS} {v2 : Int32} {v4 : Int32} {v5 : Int32} {v6 : Int32} {v7 : Int32} {v9 : Int32} {v10 : Int32} {v11 : Int32} {v13 : Int32} {v14 : Int32}
    (hx : p.tables.exec = Jvm.exec) (hb : c.code = cL_law) (hr : meth.sig.returnType = ret) (hlocks : meth.locks = false) (F : CallFix p m c cL_law 30 s #[Value.ref b] wsL_law RL) (hK : va_K g.1 vwCl (tyL g) s) (hN : NW s) (hA : ∀ q : Nat, s.heap.size ≤ q → Z q) (hZ : Z = fun q => s.heap.size ≤ q) (hbA : ¬ Z b) (hX : va_X b L xs s s.heap) (hbl : b < s.heap.size) (hF : g_1004 L xs σC σD σP σN σW σY σK ℓK σH v2 v4 v5 v6 v7 v9 v10 v11 v13 v14 = some 1)
    (hP : va_P g.1 vwCl (wX6 qX AX ++ wX1 g (AX 0) AC σC ++ wX1 g (AX 1) AD σD ++ wX3 g (AX 3) AP σP ++ wX2 (AX 4) σN ++ wX5 g (AX 5) AW (.ref qH) σW ++ wX4 g (AX 6) AY σY ++ wX0 g (AX 7) AK σK ℓK ++ wH g qH σH) H) (hD : va_D Z (wX6 qX AX ++ wX1 g (AX 0) AC σC ++ wX1 g (AX 1) AD σD ++ wX3 g (AX 3) AP σP ++ wX2 (AX 4) σN ++ wX5 g (AX 5) AW (.ref qH) σW ++ wX4 g (AX 6) AY σY ++ wX0 g (AX 7) AK σK ℓK ++ wH g qH σH)) (hS : va_S Z s.heap H locs) (hl : lv_has ls 30 [(0, .ref b), (1, .ref qX), (2, .int v2), (4, .int v4), (5, .int v5), (6, .int v6), (7, .int v7), (9, .int v9), (10, .int v10), (11, .int v11), (13, .int v13), (14, .int v14)]) : W p l e room_1 s m #[Value.ref b] below meth c H locs 200 40000 (lw_Z below #[Value.ref b] s) (F0 m 1004 ls []) := by
  have hts := F.2.2.2.2
  have hown : s.vm.findClass RL = some m.cls := F.2.2.2.1
  dsimp only [g_1004] at hF
  refine lv_iconst (v := 0) hx hb dL_law_1004 (by decide) ?_
  refine lv_istore (lv' := [(15, .int 0), (0, .ref b), (1, .ref qX), (2, .int v2), (4, .int v4), (5, .int v5), (6, .int v6), (7, .int v7), (9, .int v9), (10, .int v10), (11, .int v11), (13, .int v13), (14, .int v14)]) hx hb dL_law_1005 hl (by decide) rfl (fun ls hl => ?_)
  refine lv_iconst (v := 0) hx hb dL_law_1007 (by decide) ?_
  refine lv_istore (lv' := [(16, .int 0), (15, .int 0), (0, .ref b), (1, .ref qX), (2, .int v2), (4, .int v4), (5, .int v5), (6, .int v6), (7, .int v7), (9, .int v9), (10, .int v10), (11, .int v11), (13, .int v13), (14, .int v14)]) hx hb dL_law_1008 hl (by decide) rfl (fun ls hl => ?_)
  refine q_loop (fun u0 => wX6 qX AX ++ wX1 g (AX 0) AC σC ++ wX1 g (AX 1) AD u0.2.2.2.2.2.2.2.1 ++ wX3 g (AX 3) AP u0.2.2.2.2.2.2.1 ++ wX2 (AX 4) u0.2.2.2.2.2.2.2.2 ++ wX5 g (AX 5) AW (.ref qH) σW ++ wX4 g (AX 6) AY σY ++ wX0 g (AX 7) AK σK ℓK ++ wH g qH σH) (fun u0 => [(16, .int u0.1), (15, .int u0.2.1), (0, .ref b), (1, .ref qX), (2, .int v2), (4, .int v4), (5, .int u0.2.2.1), (6, .int u0.2.2.2.1), (7, .int v7), (9, .int v9), (10, .int v10), (11, .int v11), (13, .int u0.2.2.2.2.1), (14, .int u0.2.2.2.2.2.1)]) 1155 hF ?_ ?_ hP hD hS (lv_sub hl [0, 1, 2, 3, 4, 5, 6, 7, 8, 9, 10, 11, 12, 13] rfl)
  · rintro ⟨v16_1, v15_1, v5_1, v6_1, v13_1, v14_1, σP_1, σD_1, σN_1⟩ hF H locs ls hP hD hS hl
    try dsimp only at hF
    have hP : va_P g.1 vwCl (wX6 qX AX ++ wX1 g (AX 0) AC σC ++ wX1 g (AX 1) AD σD_1 ++ wX3 g (AX 3) AP σP_1 ++ wX2 (AX 4) σN_1 ++ wX5 g (AX 5) AW (.ref qH) σW ++ wX4 g (AX 6) AY σY ++ wX0 g (AX 7) AK σK ℓK ++ wH g qH σH) H := hP
    have hD : va_D Z (wX6 qX AX ++ wX1 g (AX 0) AC σC ++ wX1 g (AX 1) AD σD_1 ++ wX3 g (AX 3) AP σP_1 ++ wX2 (AX 4) σN_1 ++ wX5 g (AX 5) AW (.ref qH) σW ++ wX4 g (AX 6) AY σY ++ wX0 g (AX 7) AK σK ℓK ++ wH g qH σH) := hD
    have hl : lv_has ls 30 [(16, .int v16_1), (15, .int v15_1), (0, .ref b), (1, .ref qX), (2, .int v2), (4, .int v4), (5, .int v5_1), (6, .int v6_1), (7, .int v7), (9, .int v9), (10, .int v10), (11, .int v11), (13, .int v13_1), (14, .int v14_1)] := hl
    exact gs_1155 hx hb hr hlocks F hK hN hA hZ hbA hX hbl hF hP hD hS (lv_sub hl [2, 3, 4, 5, 6, 7, 8, 9, 10, 11, 13] rfl)
  · rintro k again kk ag ⟨v16_1, v15_1, v5_1, v6_1, v13_1, v14_1, σP_1, σD_1, σN_1⟩ hF H locs ls hP hD hS hl
    dsimp only [b_L_law_1010] at hF
    have hP : va_P g.1 vwCl (wX6 qX AX ++ wX1 g (AX 0) AC σC ++ wX1 g (AX 1) AD σD_1 ++ wX3 g (AX 3) AP σP_1 ++ wX2 (AX 4) σN_1 ++ wX5 g (AX 5) AW (.ref qH) σW ++ wX4 g (AX 6) AY σY ++ wX0 g (AX 7) AK σK ℓK ++ wH g qH σH) H := hP
    have hD : va_D Z (wX6 qX AX ++ wX1 g (AX 0) AC σC ++ wX1 g (AX 1) AD σD_1 ++ wX3 g (AX 3) AP σP_1 ++ wX2 (AX 4) σN_1 ++ wX5 g (AX 5) AW (.ref qH) σW ++ wX4 g (AX 6) AY σY ++ wX0 g (AX 7) AK σK ℓK ++ wH g qH σH) := hD
    have hl : lv_has ls 30 [(16, .int v16_1), (15, .int v15_1), (0, .ref b), (1, .ref qX), (2, .int v2), (4, .int v4), (5, .int v5_1), (6, .int v6_1), (7, .int v7), (9, .int v9), (10, .int v10), (11, .int v11), (13, .int v13_1), (14, .int v14_1)] := hl
    refine lv_iload hx hb dL_law_1010 (lv_at hl 0 rfl) ?_
    refine lv_bipush (v := 17) hx hb dL_law_1012 (by decide) ?_
    refine lv_icmp_ge (tgt := 1155) hx hb dL_law_1014 (by decide) (fun c_2 => ?_) (fun c_2 => ?_)
    · have hF := q_if_t c_2 hF
      exact kk (v16_1, v15_1, v5_1, v6_1, v13_1, v14_1, σP_1, σD_1, σN_1) hF _ _ _ hP hD hS (lv_sub hl [0, 1, 2, 3, 4, 5, 6, 7, 8, 9, 10, 11, 12, 13] rfl)
    · have hF := q_if_f c_2 hF
      refine lv_iload hx hb dL_law_1017 (lv_at hl 13 rfl) ?_
      refine lv_if_eq (tgt := 1155) hx hb dL_law_1019 (by decide) (fun c_3 => ?_) (fun c_3 => ?_)
      · have hF := q_if_t c_3 hF
        exact kk (v16_1, v15_1, v5_1, v6_1, v13_1, v14_1, σP_1, σD_1, σN_1) hF _ _ _ hP hD hS (lv_sub hl [0, 1, 2, 3, 4, 5, 6, 7, 8, 9, 10, 11, 12, 13] rfl)
      · have hF := q_if_f c_3 hF
        refine lv_iload hx hb dL_law_1022 (lv_at hl 1 rfl) ?_
        refine lv_iload hx hb dL_law_1024 (lv_at hl 7 rfl) ?_
        refine lv_bipush (v := 9) hx hb dL_law_1026 (by decide) ?_
        refine lv_iload hx hb dL_law_1028 (lv_at hl 12 rfl) ?_
        refine lv_imul hx hb dL_law_1030 ?_
        refine lv_icmp_le (tgt := 1038) hx hb dL_law_1031 (by decide) (fun c_4 => ?_) (fun c_4 => ?_)
        · have hF := q_if_t c_4 hF
          refine lv_iconst (v := 0) hx hb dL_law_1038 (by decide) ?_
          refine lv_ior hx hb dL_law_1039 ?_
          obtain ⟨v15_5, e_6, hF⟩ := q_bd_s hF
          refine gtop e_6 ?_
          refine lv_istore (lv' := [(15, .int v15_5), (16, .int v16_1), (0, .ref b), (1, .ref qX), (2, .int v2), (4, .int v4), (5, .int v5_1), (6, .int v6_1), (7, .int v7), (9, .int v9), (10, .int v10), (11, .int v11), (13, .int v13_1), (14, .int v14_1)]) hx hb dL_law_1040 hl (by decide) rfl (fun ls hl => ?_)
          refine lv_iload hx hb dL_law_1042 (lv_at hl 12 rfl) ?_
          refine lv_iload hx hb dL_law_1044 (lv_at hl 7 rfl) ?_
          refine lv_bipush (v := 9) hx hb dL_law_1046 (by decide) ?_
          refine lv_iload hx hb dL_law_1048 (lv_at hl 12 rfl) ?_
          refine lv_imul hx hb dL_law_1050 ?_
          refine lv_icmp_gt (tgt := 1061) hx hb dL_law_1051 (by decide) (fun c_7 => ?_) (fun c_7 => ?_)
          · have hF := q_if_t c_7 hF
            refine lv_iconst (v := 0) hx hb dL_law_1061 (by decide) ?_
            refine lv_goto (tgt := 1066) hx hb dL_law_1062 (by decide) ?_
            refine lv_iadd hx hb dL_law_1066 ?_
            obtain ⟨v13_8, e_9, hF⟩ := q_bd_s hF
            refine gtop e_9 ?_
            refine lv_istore (lv' := [(13, .int v13_8), (15, .int v15_5), (16, .int v16_1), (0, .ref b), (1, .ref qX), (2, .int v2), (4, .int v4), (5, .int v5_1), (6, .int v6_1), (7, .int v7), (9, .int v9), (10, .int v10), (11, .int v11), (14, .int v14_1)]) hx hb dL_law_1067 hl (by decide) rfl (fun ls hl => ?_)
            refine lv_iload hx hb dL_law_1069 (lv_at hl 8 rfl) ?_
            refine lv_iconst (v := 5) hx hb dL_law_1071 (by decide) ?_
            refine lv_icmp_le (tgt := 1082) hx hb dL_law_1072 (by decide) (fun c_10 => ?_) (fun c_10 => ?_)
            · have hF := q_if_t c_10 hF
              refine lv_iconst (v := 0) hx hb dL_law_1082 (by decide) ?_
              refine lv_istore (lv' := [(6, .int 0), (13, .int v13_8), (15, .int v15_5), (16, .int v16_1), (0, .ref b), (1, .ref qX), (2, .int v2), (4, .int v4), (5, .int v5_1), (7, .int v7), (9, .int v9), (10, .int v10), (11, .int v11), (14, .int v14_1)]) hx hb dL_law_1083 hl (by decide) rfl (fun ls hl => ?_)
              refine lv_iinc (v := v5_1 + 1) (lv' := [(5, .int (v5_1 + 1)), (6, .int 0), (13, .int v13_8), (15, .int v15_5), (16, .int v16_1), (0, .ref b), (1, .ref qX), (2, .int v2), (4, .int v4), (7, .int v7), (9, .int v9), (10, .int v10), (11, .int v11), (14, .int v14_1)]) hx hb dL_law_1085 hl (k := 8) rfl rfl (by decide) rfl (fun ls hl => ?_)
              refine lv_aload_n hx hb dL_law_1088 rfl (lv_at hl 6 rfl) ?_
              refine lv_bipush (v := 42) hx hb dL_law_1089 (by decide) ?_
              obtain ⟨⟨r_11, σP_12⟩, h_13, hF⟩ := q_cl_s hF
              try dsimp only at hF
              refine gcV_i (As := [.int 42]) (rest := []) (ci := 6) (q := (RX6, TX6, 8)) F hK hN hP hD hS hA (m_X6_say l g H.size qX AX AP σP_1 (42 : Int32) r_11 σP_12 h_13) gL_law_X6_say kX6_say rfl rfl rfl rfl ⟨(Nat.le_of_ble_eq_true rfl), (Nat.le_of_ble_eq_true rfl)⟩ [0, 17, 18] [1, 2, 3, 4, 5, 6, 7, 8, 9, 10, 11, 12, 13, 14, 15, 16, 19, 20, 21, 22, 23, 24, 25, 26, 27, 28, 29, 30, 31] rfl rfl rfl (by decide) rfl rfl rfl rfl rfl hl.1 (Nat.le_of_ble_eq_true rfl) dL_law_1091 ⟨(Nat.le_of_ble_eq_true rfl), (Nat.le_of_ble_eq_true rfl)⟩ (fun r_w u_w H locs hw hP hD hS => ?_)
              have hP : va_P g.1 vwCl (wX6 qX AX ++ wX1 g (AX 0) AC σC ++ wX1 g (AX 1) AD σD_1 ++ wX3 g (AX 3) AP σP_12 ++ wX2 (AX 4) σN_1 ++ wX5 g (AX 5) AW (.ref qH) σW ++ wX4 g (AX 6) AY σY ++ wX0 g (AX 7) AK σK ℓK ++ wH g qH σH) H := hP.sub [29, 0, 1, 2, 3, 4, 5, 6, 7, 8, 9, 10, 11, 12, 13, 14, 15, 30, 31, 16, 17, 18, 19, 20, 21, 22, 23, 24, 25, 26, 27, 28] rfl
              have hD : va_D Z (wX6 qX AX ++ wX1 g (AX 0) AC σC ++ wX1 g (AX 1) AD σD_1 ++ wX3 g (AX 3) AP σP_12 ++ wX2 (AX 4) σN_1 ++ wX5 g (AX 5) AW (.ref qH) σW ++ wX4 g (AX 6) AY σY ++ wX0 g (AX 7) AK σK ℓK ++ wH g qH σH) := hD.sub [29, 0, 1, 2, 3, 4, 5, 6, 7, 8, 9, 10, 11, 12, 13, 14, 15, 30, 31, 16, 17, 18, 19, 20, 21, 22, 23, 24, 25, 26, 27, 28] (by decide) rfl
              obtain rfl : r_11 = r_w := hw.symm
              refine lv_iload hx hb dL_law_1094 (lv_at hl 0 rfl) ?_
              refine lv_icmp_ne (tgt := 1146) hx hb dL_law_1096 (by decide) (fun c_15 => ?_) (fun c_15 => ?_)
              · have hF := q_if_f c_15 hF
                refine lv_iconst (v := 0) hx hb dL_law_1146 (by decide) ?_
                refine lv_istore (lv' := [(14, .int 0), (5, .int (v5_1 + 1)), (6, .int 0), (13, .int v13_8), (15, .int v15_5), (16, .int v16_1), (0, .ref b), (1, .ref qX), (2, .int v2), (4, .int v4), (7, .int v7), (9, .int v9), (10, .int v10), (11, .int v11)]) hx hb dL_law_1147 hl (by decide) rfl (fun ls hl => ?_)
                refine lv_iinc (v := v16_1 + 1) (lv' := [(16, .int (v16_1 + 1)), (14, .int 0), (5, .int (v5_1 + 1)), (6, .int 0), (13, .int v13_8), (15, .int v15_5), (0, .ref b), (1, .ref qX), (2, .int v2), (4, .int v4), (7, .int v7), (9, .int v9), (10, .int v10), (11, .int v11)]) hx hb dL_law_1149 hl (k := 5) rfl rfl (by decide) rfl (fun ls hl => ?_)
                refine lv_goto (tgt := 1010) hx hb dL_law_1152 (by decide) ?_
                exact ag (v16_1 + 1, v15_5, v5_1 + 1, (0 : Int32), v13_8, (0 : Int32), σP_12, σD_1, σN_1) hF _ _ _ hP hD hS (lv_sub hl [0, 5, 6, 7, 8, 9, 2, 3, 10, 11, 12, 13, 4, 1] rfl)
              · have hF := q_if_t (by first | exact c_15 | exact Classical.not_not.mp c_15) hF
                refine lv_aload_n hx hb dL_law_1099 rfl (lv_at hl 6 rfl) ?_
                refine lv_iconst (v := 1) hx hb dL_law_1100 (by decide) ?_
                obtain ⟨⟨r_16, σN_17, σD_18⟩, h_19, hF⟩ := q_cl_s hF
                try dsimp only at hF
                refine gcV_i (As := [.int 1]) (rest := []) (ci := 6) (q := (RX6, TX6, 8)) F hK hN hP hD hS hA (m_X6_pan l g H.size qX AX σN_1 AP σP_12 AD σD_1 AC σC (1 : Int32) r_16 σN_17 σD_18 h_19) gL_law_X6_pan kX6_pan rfl rfl rfl rfl ⟨(Nat.le_of_ble_eq_true rfl), (Nat.le_of_ble_eq_true rfl)⟩ [0, 19, 17, 18, 9, 10, 11, 12, 13, 14, 15, 16, 1, 2, 3, 4, 5, 6, 7, 8] [20, 21, 22, 23, 24, 25, 26, 27, 28, 29, 30, 31] rfl rfl rfl (by decide) rfl rfl rfl rfl rfl hl.1 (Nat.le_of_ble_eq_true rfl) dL_law_1101 ⟨(Nat.le_of_ble_eq_true rfl), (Nat.le_of_ble_eq_true rfl)⟩ (fun r_w u_w H locs hw hP hD hS => ?_)
                have hP : va_P g.1 vwCl (wX6 qX AX ++ wX1 g (AX 0) AC σC ++ wX1 g (AX 1) AD σD_18 ++ wX3 g (AX 3) AP σP_12 ++ wX2 (AX 4) σN_17 ++ wX5 g (AX 5) AW (.ref qH) σW ++ wX4 g (AX 6) AY σY ++ wX0 g (AX 7) AK σK ℓK ++ wH g qH σH) H := hP.sub [12, 24, 25, 26, 27, 28, 29, 30, 31, 16, 17, 18, 19, 20, 21, 22, 23, 14, 15, 13, 0, 1, 2, 3, 4, 5, 6, 7, 8, 9, 10, 11] rfl
                have hD : va_D Z (wX6 qX AX ++ wX1 g (AX 0) AC σC ++ wX1 g (AX 1) AD σD_18 ++ wX3 g (AX 3) AP σP_12 ++ wX2 (AX 4) σN_17 ++ wX5 g (AX 5) AW (.ref qH) σW ++ wX4 g (AX 6) AY σY ++ wX0 g (AX 7) AK σK ℓK ++ wH g qH σH) := hD.sub [12, 24, 25, 26, 27, 28, 29, 30, 31, 16, 17, 18, 19, 20, 21, 22, 23, 14, 15, 13, 0, 1, 2, 3, 4, 5, 6, 7, 8, 9, 10, 11] (by decide) rfl
                obtain rfl : r_16 = r_w := hw.symm
                refine lv_iload hx hb dL_law_1104 (lv_at hl 1 rfl) ?_
                refine lv_icmp_ne (tgt := 1146) hx hb dL_law_1106 (by decide) (fun c_21 => ?_) (fun c_21 => ?_)
                · have hF := q_if_f c_21 hF
                  refine lv_iconst (v := 0) hx hb dL_law_1146 (by decide) ?_
                  refine lv_istore (lv' := [(14, .int 0), (5, .int (v5_1 + 1)), (6, .int 0), (13, .int v13_8), (15, .int v15_5), (16, .int v16_1), (0, .ref b), (1, .ref qX), (2, .int v2), (4, .int v4), (7, .int v7), (9, .int v9), (10, .int v10), (11, .int v11)]) hx hb dL_law_1147 hl (by decide) rfl (fun ls hl => ?_)
                  refine lv_iinc (v := v16_1 + 1) (lv' := [(16, .int (v16_1 + 1)), (14, .int 0), (5, .int (v5_1 + 1)), (6, .int 0), (13, .int v13_8), (15, .int v15_5), (0, .ref b), (1, .ref qX), (2, .int v2), (4, .int v4), (7, .int v7), (9, .int v9), (10, .int v10), (11, .int v11)]) hx hb dL_law_1149 hl (k := 5) rfl rfl (by decide) rfl (fun ls hl => ?_)
                  refine lv_goto (tgt := 1010) hx hb dL_law_1152 (by decide) ?_
                  exact ag (v16_1 + 1, v15_5, v5_1 + 1, (0 : Int32), v13_8, (0 : Int32), σP_12, σD_18, σN_17) hF _ _ _ hP hD hS (lv_sub hl [0, 5, 6, 7, 8, 9, 2, 3, 10, 11, 12, 13, 4, 1] rfl)
                · have hF := q_if_t (by first | exact c_21 | exact Classical.not_not.mp c_21) hF
                  refine lv_aload_n hx hb dL_law_1109 rfl (lv_at hl 6 rfl) ?_
                  refine lv_iload hx hb dL_law_1110 (lv_at hl 11 rfl) ?_
                  refine lv_iconst (v := 1) hx hb dL_law_1112 (by decide) ?_
                  obtain ⟨⟨r_22, σN_23, σD_24⟩, h_25, hF⟩ := q_cl_s hF
                  try dsimp only at hF
                  refine gcV_i (As := [.int v10, .int 1]) (rest := []) (ci := 6) (q := (RX6, TX6, 8)) F hK hN hP hD hS hA (m_X6_behind l g H.size qX AX σN_17 AP σP_12 AD σD_18 AC σC v10 (1 : Int32) r_22 σN_23 σD_24 h_25) gL_law_X6_behind kX6_behind rfl rfl rfl rfl ⟨(Nat.le_of_ble_eq_true rfl), (Nat.le_of_ble_eq_true rfl)⟩ [0, 19, 17, 18, 9, 10, 11, 12, 13, 14, 15, 16, 1, 2, 3, 4, 5, 6, 7, 8] [20, 21, 22, 23, 24, 25, 26, 27, 28, 29, 30, 31] rfl rfl rfl (by decide) rfl rfl rfl rfl rfl hl.1 (Nat.le_of_ble_eq_true rfl) dL_law_1113 ⟨(Nat.le_of_ble_eq_true rfl), (Nat.le_of_ble_eq_true rfl)⟩ (fun r_w u_w H locs hw hP hD hS => ?_)
                  have hP : va_P g.1 vwCl (wX6 qX AX ++ wX1 g (AX 0) AC σC ++ wX1 g (AX 1) AD σD_24 ++ wX3 g (AX 3) AP σP_12 ++ wX2 (AX 4) σN_23 ++ wX5 g (AX 5) AW (.ref qH) σW ++ wX4 g (AX 6) AY σY ++ wX0 g (AX 7) AK σK ℓK ++ wH g qH σH) H := hP.sub [12, 24, 25, 26, 27, 28, 29, 30, 31, 16, 17, 18, 19, 20, 21, 22, 23, 14, 15, 13, 0, 1, 2, 3, 4, 5, 6, 7, 8, 9, 10, 11] rfl
                  have hD : va_D Z (wX6 qX AX ++ wX1 g (AX 0) AC σC ++ wX1 g (AX 1) AD σD_24 ++ wX3 g (AX 3) AP σP_12 ++ wX2 (AX 4) σN_23 ++ wX5 g (AX 5) AW (.ref qH) σW ++ wX4 g (AX 6) AY σY ++ wX0 g (AX 7) AK σK ℓK ++ wH g qH σH) := hD.sub [12, 24, 25, 26, 27, 28, 29, 30, 31, 16, 17, 18, 19, 20, 21, 22, 23, 14, 15, 13, 0, 1, 2, 3, 4, 5, 6, 7, 8, 9, 10, 11] (by decide) rfl
                  obtain rfl : r_22 = r_w := hw.symm
                  refine lv_iload hx hb dL_law_1116 (lv_at hl 2 rfl) ?_
                  refine lv_icmp_ne (tgt := 1146) hx hb dL_law_1118 (by decide) (fun c_27 => ?_) (fun c_27 => ?_)
                  · have hF := q_if_f c_27 hF
                    refine lv_iconst (v := 0) hx hb dL_law_1146 (by decide) ?_
                    refine lv_istore (lv' := [(14, .int 0), (5, .int (v5_1 + 1)), (6, .int 0), (13, .int v13_8), (15, .int v15_5), (16, .int v16_1), (0, .ref b), (1, .ref qX), (2, .int v2), (4, .int v4), (7, .int v7), (9, .int v9), (10, .int v10), (11, .int v11)]) hx hb dL_law_1147 hl (by decide) rfl (fun ls hl => ?_)
                    refine lv_iinc (v := v16_1 + 1) (lv' := [(16, .int (v16_1 + 1)), (14, .int 0), (5, .int (v5_1 + 1)), (6, .int 0), (13, .int v13_8), (15, .int v15_5), (0, .ref b), (1, .ref qX), (2, .int v2), (4, .int v4), (7, .int v7), (9, .int v9), (10, .int v10), (11, .int v11)]) hx hb dL_law_1149 hl (k := 5) rfl rfl (by decide) rfl (fun ls hl => ?_)
                    refine lv_goto (tgt := 1010) hx hb dL_law_1152 (by decide) ?_
                    exact ag (v16_1 + 1, v15_5, v5_1 + 1, (0 : Int32), v13_8, (0 : Int32), σP_12, σD_24, σN_23) hF _ _ _ hP hD hS (lv_sub hl [0, 5, 6, 7, 8, 9, 2, 3, 10, 11, 12, 13, 4, 1] rfl)
                  · have hF := q_if_t (by first | exact c_27 | exact Classical.not_not.mp c_27) hF
                    refine lv_aload_n hx hb dL_law_1121 rfl (lv_at hl 6 rfl) ?_
                    refine lv_iload hx hb dL_law_1122 (lv_at hl 11 rfl) ?_
                    refine lv_iconst (v := 0) hx hb dL_law_1124 (by decide) ?_
                    obtain ⟨⟨r_28, σN_29, σD_30⟩, h_31, hF⟩ := q_cl_s hF
                    try dsimp only at hF
                    refine gcV_i (As := [.int v10, .int 0]) (rest := []) (ci := 6) (q := (RX6, TX6, 8)) F hK hN hP hD hS hA (m_X6_behind l g H.size qX AX σN_23 AP σP_12 AD σD_24 AC σC v10 (0 : Int32) r_28 σN_29 σD_30 h_31) gL_law_X6_behind kX6_behind rfl rfl rfl rfl ⟨(Nat.le_of_ble_eq_true rfl), (Nat.le_of_ble_eq_true rfl)⟩ [0, 19, 17, 18, 9, 10, 11, 12, 13, 14, 15, 16, 1, 2, 3, 4, 5, 6, 7, 8] [20, 21, 22, 23, 24, 25, 26, 27, 28, 29, 30, 31] rfl rfl rfl (by decide) rfl rfl rfl rfl rfl hl.1 (Nat.le_of_ble_eq_true rfl) dL_law_1125 ⟨(Nat.le_of_ble_eq_true rfl), (Nat.le_of_ble_eq_true rfl)⟩ (fun r_w u_w H locs hw hP hD hS => ?_)
                    have hP : va_P g.1 vwCl (wX6 qX AX ++ wX1 g (AX 0) AC σC ++ wX1 g (AX 1) AD σD_30 ++ wX3 g (AX 3) AP σP_12 ++ wX2 (AX 4) σN_29 ++ wX5 g (AX 5) AW (.ref qH) σW ++ wX4 g (AX 6) AY σY ++ wX0 g (AX 7) AK σK ℓK ++ wH g qH σH) H := hP.sub [12, 24, 25, 26, 27, 28, 29, 30, 31, 16, 17, 18, 19, 20, 21, 22, 23, 14, 15, 13, 0, 1, 2, 3, 4, 5, 6, 7, 8, 9, 10, 11] rfl
                    have hD : va_D Z (wX6 qX AX ++ wX1 g (AX 0) AC σC ++ wX1 g (AX 1) AD σD_30 ++ wX3 g (AX 3) AP σP_12 ++ wX2 (AX 4) σN_29 ++ wX5 g (AX 5) AW (.ref qH) σW ++ wX4 g (AX 6) AY σY ++ wX0 g (AX 7) AK σK ℓK ++ wH g qH σH) := hD.sub [12, 24, 25, 26, 27, 28, 29, 30, 31, 16, 17, 18, 19, 20, 21, 22, 23, 14, 15, 13, 0, 1, 2, 3, 4, 5, 6, 7, 8, 9, 10, 11] (by decide) rfl
                    obtain rfl : r_28 = r_w := hw.symm
                    refine lv_iload hx hb dL_law_1128 (lv_at hl 3 rfl) ?_
                    refine lv_if_eq (tgt := 1137) hx hb dL_law_1130 (by decide) (fun c_33 => ?_) (fun c_33 => ?_)
                    · have hF := q_if_t c_33 hF
                      refine lv_bipush (v := (-6)) hx hb dL_law_1137 (by decide) ?_
                      refine lv_icmp_ne (tgt := 1146) hx hb dL_law_1139 (by decide) (fun c_34 => ?_) (fun c_34 => ?_)
                      · have hF := q_if_f c_34 hF
                        refine lv_iconst (v := 0) hx hb dL_law_1146 (by decide) ?_
                        refine lv_istore (lv' := [(14, .int 0), (5, .int (v5_1 + 1)), (6, .int 0), (13, .int v13_8), (15, .int v15_5), (16, .int v16_1), (0, .ref b), (1, .ref qX), (2, .int v2), (4, .int v4), (7, .int v7), (9, .int v9), (10, .int v10), (11, .int v11)]) hx hb dL_law_1147 hl (by decide) rfl (fun ls hl => ?_)
                        refine lv_iinc (v := v16_1 + 1) (lv' := [(16, .int (v16_1 + 1)), (14, .int 0), (5, .int (v5_1 + 1)), (6, .int 0), (13, .int v13_8), (15, .int v15_5), (0, .ref b), (1, .ref qX), (2, .int v2), (4, .int v4), (7, .int v7), (9, .int v9), (10, .int v10), (11, .int v11)]) hx hb dL_law_1149 hl (k := 5) rfl rfl (by decide) rfl (fun ls hl => ?_)
                        refine lv_goto (tgt := 1010) hx hb dL_law_1152 (by decide) ?_
                        exact ag (v16_1 + 1, v15_5, v5_1 + 1, (0 : Int32), v13_8, (0 : Int32), σP_12, σD_30, σN_29) hF _ _ _ hP hD hS (lv_sub hl [0, 5, 6, 7, 8, 9, 2, 3, 10, 11, 12, 13, 4, 1] rfl)
                      · have hF := q_if_t (by first | exact c_34 | exact Classical.not_not.mp c_34) hF
                        refine lv_iconst (v := 1) hx hb dL_law_1142 (by decide) ?_
                        refine lv_goto (tgt := 1147) hx hb dL_law_1143 (by decide) ?_
                        refine lv_istore (lv' := [(14, .int 1), (5, .int (v5_1 + 1)), (6, .int 0), (13, .int v13_8), (15, .int v15_5), (16, .int v16_1), (0, .ref b), (1, .ref qX), (2, .int v2), (4, .int v4), (7, .int v7), (9, .int v9), (10, .int v10), (11, .int v11)]) hx hb dL_law_1147 hl (by decide) rfl (fun ls hl => ?_)
                        refine lv_iinc (v := v16_1 + 1) (lv' := [(16, .int (v16_1 + 1)), (14, .int 1), (5, .int (v5_1 + 1)), (6, .int 0), (13, .int v13_8), (15, .int v15_5), (0, .ref b), (1, .ref qX), (2, .int v2), (4, .int v4), (7, .int v7), (9, .int v9), (10, .int v10), (11, .int v11)]) hx hb dL_law_1149 hl (k := 5) rfl rfl (by decide) rfl (fun ls hl => ?_)
                        refine lv_goto (tgt := 1010) hx hb dL_law_1152 (by decide) ?_
                        exact ag (v16_1 + 1, v15_5, v5_1 + 1, (0 : Int32), v13_8, (1 : Int32), σP_12, σD_30, σN_29) hF _ _ _ hP hD hS (lv_sub hl [0, 5, 6, 7, 8, 9, 2, 3, 10, 11, 12, 13, 4, 1] rfl)
                    · have hF := q_if_f c_33 hF
                      refine lv_iconst (v := 3) hx hb dL_law_1133 (by decide) ?_
                      refine lv_goto (tgt := 1139) hx hb dL_law_1134 (by decide) ?_
                      refine lv_icmp_ne (tgt := 1146) hx hb dL_law_1139 (by decide) (fun c_35 => ?_) (fun c_35 => ?_)
                      · have hF := q_if_f c_35 hF
                        refine lv_iconst (v := 0) hx hb dL_law_1146 (by decide) ?_
                        refine lv_istore (lv' := [(14, .int 0), (5, .int (v5_1 + 1)), (6, .int 0), (13, .int v13_8), (15, .int v15_5), (16, .int v16_1), (0, .ref b), (1, .ref qX), (2, .int v2), (4, .int v4), (7, .int v7), (9, .int v9), (10, .int v10), (11, .int v11)]) hx hb dL_law_1147 hl (by decide) rfl (fun ls hl => ?_)
                        refine lv_iinc (v := v16_1 + 1) (lv' := [(16, .int (v16_1 + 1)), (14, .int 0), (5, .int (v5_1 + 1)), (6, .int 0), (13, .int v13_8), (15, .int v15_5), (0, .ref b), (1, .ref qX), (2, .int v2), (4, .int v4), (7, .int v7), (9, .int v9), (10, .int v10), (11, .int v11)]) hx hb dL_law_1149 hl (k := 5) rfl rfl (by decide) rfl (fun ls hl => ?_)
                        refine lv_goto (tgt := 1010) hx hb dL_law_1152 (by decide) ?_
                        exact ag (v16_1 + 1, v15_5, v5_1 + 1, (0 : Int32), v13_8, (0 : Int32), σP_12, σD_30, σN_29) hF _ _ _ hP hD hS (lv_sub hl [0, 5, 6, 7, 8, 9, 2, 3, 10, 11, 12, 13, 4, 1] rfl)
                      · have hF := q_if_t (by first | exact c_35 | exact Classical.not_not.mp c_35) hF
                        refine lv_iconst (v := 1) hx hb dL_law_1142 (by decide) ?_
                        refine lv_goto (tgt := 1147) hx hb dL_law_1143 (by decide) ?_
                        refine lv_istore (lv' := [(14, .int 1), (5, .int (v5_1 + 1)), (6, .int 0), (13, .int v13_8), (15, .int v15_5), (16, .int v16_1), (0, .ref b), (1, .ref qX), (2, .int v2), (4, .int v4), (7, .int v7), (9, .int v9), (10, .int v10), (11, .int v11)]) hx hb dL_law_1147 hl (by decide) rfl (fun ls hl => ?_)
                        refine lv_iinc (v := v16_1 + 1) (lv' := [(16, .int (v16_1 + 1)), (14, .int 1), (5, .int (v5_1 + 1)), (6, .int 0), (13, .int v13_8), (15, .int v15_5), (0, .ref b), (1, .ref qX), (2, .int v2), (4, .int v4), (7, .int v7), (9, .int v9), (10, .int v10), (11, .int v11)]) hx hb dL_law_1149 hl (k := 5) rfl rfl (by decide) rfl (fun ls hl => ?_)
                        refine lv_goto (tgt := 1010) hx hb dL_law_1152 (by decide) ?_
                        exact ag (v16_1 + 1, v15_5, v5_1 + 1, (0 : Int32), v13_8, (1 : Int32), σP_12, σD_30, σN_29) hF _ _ _ hP hD hS (lv_sub hl [0, 5, 6, 7, 8, 9, 2, 3, 10, 11, 12, 13, 4, 1] rfl)
            · have hF := q_if_f c_10 hF
              refine lv_iload hx hb dL_law_1075 (lv_at hl 8 rfl) ?_
              refine lv_iconst (v := 5) hx hb dL_law_1077 (by decide) ?_
              refine lv_isub hx hb dL_law_1078 ?_
              refine lv_goto (tgt := 1083) hx hb dL_law_1079 (by decide) ?_
              obtain ⟨v6_36, e_37, hF⟩ := q_bd_s hF
              refine gtop e_37 ?_
              refine lv_istore (lv' := [(6, .int v6_36), (13, .int v13_8), (15, .int v15_5), (16, .int v16_1), (0, .ref b), (1, .ref qX), (2, .int v2), (4, .int v4), (5, .int v5_1), (7, .int v7), (9, .int v9), (10, .int v10), (11, .int v11), (14, .int v14_1)]) hx hb dL_law_1083 hl (by decide) rfl (fun ls hl => ?_)
              refine lv_iinc (v := v5_1 + 1) (lv' := [(5, .int (v5_1 + 1)), (6, .int v6_36), (13, .int v13_8), (15, .int v15_5), (16, .int v16_1), (0, .ref b), (1, .ref qX), (2, .int v2), (4, .int v4), (7, .int v7), (9, .int v9), (10, .int v10), (11, .int v11), (14, .int v14_1)]) hx hb dL_law_1085 hl (k := 8) rfl rfl (by decide) rfl (fun ls hl => ?_)
              refine lv_aload_n hx hb dL_law_1088 rfl (lv_at hl 6 rfl) ?_
              refine lv_bipush (v := 42) hx hb dL_law_1089 (by decide) ?_
              obtain ⟨⟨r_38, σP_39⟩, h_40, hF⟩ := q_cl_s hF
              try dsimp only at hF
              refine gcV_i (As := [.int 42]) (rest := []) (ci := 6) (q := (RX6, TX6, 8)) F hK hN hP hD hS hA (m_X6_say l g H.size qX AX AP σP_1 (42 : Int32) r_38 σP_39 h_40) gL_law_X6_say kX6_say rfl rfl rfl rfl ⟨(Nat.le_of_ble_eq_true rfl), (Nat.le_of_ble_eq_true rfl)⟩ [0, 17, 18] [1, 2, 3, 4, 5, 6, 7, 8, 9, 10, 11, 12, 13, 14, 15, 16, 19, 20, 21, 22, 23, 24, 25, 26, 27, 28, 29, 30, 31] rfl rfl rfl (by decide) rfl rfl rfl rfl rfl hl.1 (Nat.le_of_ble_eq_true rfl) dL_law_1091 ⟨(Nat.le_of_ble_eq_true rfl), (Nat.le_of_ble_eq_true rfl)⟩ (fun r_w u_w H locs hw hP hD hS => ?_)
              have hP : va_P g.1 vwCl (wX6 qX AX ++ wX1 g (AX 0) AC σC ++ wX1 g (AX 1) AD σD_1 ++ wX3 g (AX 3) AP σP_39 ++ wX2 (AX 4) σN_1 ++ wX5 g (AX 5) AW (.ref qH) σW ++ wX4 g (AX 6) AY σY ++ wX0 g (AX 7) AK σK ℓK ++ wH g qH σH) H := hP.sub [29, 0, 1, 2, 3, 4, 5, 6, 7, 8, 9, 10, 11, 12, 13, 14, 15, 30, 31, 16, 17, 18, 19, 20, 21, 22, 23, 24, 25, 26, 27, 28] rfl
              have hD : va_D Z (wX6 qX AX ++ wX1 g (AX 0) AC σC ++ wX1 g (AX 1) AD σD_1 ++ wX3 g (AX 3) AP σP_39 ++ wX2 (AX 4) σN_1 ++ wX5 g (AX 5) AW (.ref qH) σW ++ wX4 g (AX 6) AY σY ++ wX0 g (AX 7) AK σK ℓK ++ wH g qH σH) := hD.sub [29, 0, 1, 2, 3, 4, 5, 6, 7, 8, 9, 10, 11, 12, 13, 14, 15, 30, 31, 16, 17, 18, 19, 20, 21, 22, 23, 24, 25, 26, 27, 28] (by decide) rfl
              obtain rfl : r_38 = r_w := hw.symm
              refine lv_iload hx hb dL_law_1094 (lv_at hl 0 rfl) ?_
              refine lv_icmp_ne (tgt := 1146) hx hb dL_law_1096 (by decide) (fun c_42 => ?_) (fun c_42 => ?_)
              · have hF := q_if_f c_42 hF
                refine lv_iconst (v := 0) hx hb dL_law_1146 (by decide) ?_
                refine lv_istore (lv' := [(14, .int 0), (5, .int (v5_1 + 1)), (6, .int v6_36), (13, .int v13_8), (15, .int v15_5), (16, .int v16_1), (0, .ref b), (1, .ref qX), (2, .int v2), (4, .int v4), (7, .int v7), (9, .int v9), (10, .int v10), (11, .int v11)]) hx hb dL_law_1147 hl (by decide) rfl (fun ls hl => ?_)
                refine lv_iinc (v := v16_1 + 1) (lv' := [(16, .int (v16_1 + 1)), (14, .int 0), (5, .int (v5_1 + 1)), (6, .int v6_36), (13, .int v13_8), (15, .int v15_5), (0, .ref b), (1, .ref qX), (2, .int v2), (4, .int v4), (7, .int v7), (9, .int v9), (10, .int v10), (11, .int v11)]) hx hb dL_law_1149 hl (k := 5) rfl rfl (by decide) rfl (fun ls hl => ?_)
                refine lv_goto (tgt := 1010) hx hb dL_law_1152 (by decide) ?_
                exact ag (v16_1 + 1, v15_5, v5_1 + 1, v6_36, v13_8, (0 : Int32), σP_39, σD_1, σN_1) hF _ _ _ hP hD hS (lv_sub hl [0, 5, 6, 7, 8, 9, 2, 3, 10, 11, 12, 13, 4, 1] rfl)
              · have hF := q_if_t (by first | exact c_42 | exact Classical.not_not.mp c_42) hF
                refine lv_aload_n hx hb dL_law_1099 rfl (lv_at hl 6 rfl) ?_
                refine lv_iconst (v := 1) hx hb dL_law_1100 (by decide) ?_
                obtain ⟨⟨r_43, σN_44, σD_45⟩, h_46, hF⟩ := q_cl_s hF
                try dsimp only at hF
                refine gcV_i (As := [.int 1]) (rest := []) (ci := 6) (q := (RX6, TX6, 8)) F hK hN hP hD hS hA (m_X6_pan l g H.size qX AX σN_1 AP σP_39 AD σD_1 AC σC (1 : Int32) r_43 σN_44 σD_45 h_46) gL_law_X6_pan kX6_pan rfl rfl rfl rfl ⟨(Nat.le_of_ble_eq_true rfl), (Nat.le_of_ble_eq_true rfl)⟩ [0, 19, 17, 18, 9, 10, 11, 12, 13, 14, 15, 16, 1, 2, 3, 4, 5, 6, 7, 8] [20, 21, 22, 23, 24, 25, 26, 27, 28, 29, 30, 31] rfl rfl rfl (by decide) rfl rfl rfl rfl rfl hl.1 (Nat.le_of_ble_eq_true rfl) dL_law_1101 ⟨(Nat.le_of_ble_eq_true rfl), (Nat.le_of_ble_eq_true rfl)⟩ (fun r_w u_w H locs hw hP hD hS => ?_)
                have hP : va_P g.1 vwCl (wX6 qX AX ++ wX1 g (AX 0) AC σC ++ wX1 g (AX 1) AD σD_45 ++ wX3 g (AX 3) AP σP_39 ++ wX2 (AX 4) σN_44 ++ wX5 g (AX 5) AW (.ref qH) σW ++ wX4 g (AX 6) AY σY ++ wX0 g (AX 7) AK σK ℓK ++ wH g qH σH) H := hP.sub [12, 24, 25, 26, 27, 28, 29, 30, 31, 16, 17, 18, 19, 20, 21, 22, 23, 14, 15, 13, 0, 1, 2, 3, 4, 5, 6, 7, 8, 9, 10, 11] rfl
                have hD : va_D Z (wX6 qX AX ++ wX1 g (AX 0) AC σC ++ wX1 g (AX 1) AD σD_45 ++ wX3 g (AX 3) AP σP_39 ++ wX2 (AX 4) σN_44 ++ wX5 g (AX 5) AW (.ref qH) σW ++ wX4 g (AX 6) AY σY ++ wX0 g (AX 7) AK σK ℓK ++ wH g qH σH) := hD.sub [12, 24, 25, 26, 27, 28, 29, 30, 31, 16, 17, 18, 19, 20, 21, 22, 23, 14, 15, 13, 0, 1, 2, 3, 4, 5, 6, 7, 8, 9, 10, 11] (by decide) rfl
                obtain rfl : r_43 = r_w := hw.symm
                refine lv_iload hx hb dL_law_1104 (lv_at hl 1 rfl) ?_
                refine lv_icmp_ne (tgt := 1146) hx hb dL_law_1106 (by decide) (fun c_48 => ?_) (fun c_48 => ?_)
                · have hF := q_if_f c_48 hF
                  refine lv_iconst (v := 0) hx hb dL_law_1146 (by decide) ?_
                  refine lv_istore (lv' := [(14, .int 0), (5, .int (v5_1 + 1)), (6, .int v6_36), (13, .int v13_8), (15, .int v15_5), (16, .int v16_1), (0, .ref b), (1, .ref qX), (2, .int v2), (4, .int v4), (7, .int v7), (9, .int v9), (10, .int v10), (11, .int v11)]) hx hb dL_law_1147 hl (by decide) rfl (fun ls hl => ?_)
                  refine lv_iinc (v := v16_1 + 1) (lv' := [(16, .int (v16_1 + 1)), (14, .int 0), (5, .int (v5_1 + 1)), (6, .int v6_36), (13, .int v13_8), (15, .int v15_5), (0, .ref b), (1, .ref qX), (2, .int v2), (4, .int v4), (7, .int v7), (9, .int v9), (10, .int v10), (11, .int v11)]) hx hb dL_law_1149 hl (k := 5) rfl rfl (by decide) rfl (fun ls hl => ?_)
                  refine lv_goto (tgt := 1010) hx hb dL_law_1152 (by decide) ?_
                  exact ag (v16_1 + 1, v15_5, v5_1 + 1, v6_36, v13_8, (0 : Int32), σP_39, σD_45, σN_44) hF _ _ _ hP hD hS (lv_sub hl [0, 5, 6, 7, 8, 9, 2, 3, 10, 11, 12, 13, 4, 1] rfl)
                · have hF := q_if_t (by first | exact c_48 | exact Classical.not_not.mp c_48) hF
                  refine lv_aload_n hx hb dL_law_1109 rfl (lv_at hl 6 rfl) ?_
                  refine lv_iload hx hb dL_law_1110 (lv_at hl 11 rfl) ?_
                  refine lv_iconst (v := 1) hx hb dL_law_1112 (by decide) ?_
                  obtain ⟨⟨r_49, σN_50, σD_51⟩, h_52, hF⟩ := q_cl_s hF
                  try dsimp only at hF
                  refine gcV_i (As := [.int v10, .int 1]) (rest := []) (ci := 6) (q := (RX6, TX6, 8)) F hK hN hP hD hS hA (m_X6_behind l g H.size qX AX σN_44 AP σP_39 AD σD_45 AC σC v10 (1 : Int32) r_49 σN_50 σD_51 h_52) gL_law_X6_behind kX6_behind rfl rfl rfl rfl ⟨(Nat.le_of_ble_eq_true rfl), (Nat.le_of_ble_eq_true rfl)⟩ [0, 19, 17, 18, 9, 10, 11, 12, 13, 14, 15, 16, 1, 2, 3, 4, 5, 6, 7, 8] [20, 21, 22, 23, 24, 25, 26, 27, 28, 29, 30, 31] rfl rfl rfl (by decide) rfl rfl rfl rfl rfl hl.1 (Nat.le_of_ble_eq_true rfl) dL_law_1113 ⟨(Nat.le_of_ble_eq_true rfl), (Nat.le_of_ble_eq_true rfl)⟩ (fun r_w u_w H locs hw hP hD hS => ?_)
                  have hP : va_P g.1 vwCl (wX6 qX AX ++ wX1 g (AX 0) AC σC ++ wX1 g (AX 1) AD σD_51 ++ wX3 g (AX 3) AP σP_39 ++ wX2 (AX 4) σN_50 ++ wX5 g (AX 5) AW (.ref qH) σW ++ wX4 g (AX 6) AY σY ++ wX0 g (AX 7) AK σK ℓK ++ wH g qH σH) H := hP.sub [12, 24, 25, 26, 27, 28, 29, 30, 31, 16, 17, 18, 19, 20, 21, 22, 23, 14, 15, 13, 0, 1, 2, 3, 4, 5, 6, 7, 8, 9, 10, 11] rfl
                  have hD : va_D Z (wX6 qX AX ++ wX1 g (AX 0) AC σC ++ wX1 g (AX 1) AD σD_51 ++ wX3 g (AX 3) AP σP_39 ++ wX2 (AX 4) σN_50 ++ wX5 g (AX 5) AW (.ref qH) σW ++ wX4 g (AX 6) AY σY ++ wX0 g (AX 7) AK σK ℓK ++ wH g qH σH) := hD.sub [12, 24, 25, 26, 27, 28, 29, 30, 31, 16, 17, 18, 19, 20, 21, 22, 23, 14, 15, 13, 0, 1, 2, 3, 4, 5, 6, 7, 8, 9, 10, 11] (by decide) rfl
                  obtain rfl : r_49 = r_w := hw.symm
                  refine lv_iload hx hb dL_law_1116 (lv_at hl 2 rfl) ?_
                  refine lv_icmp_ne (tgt := 1146) hx hb dL_law_1118 (by decide) (fun c_54 => ?_) (fun c_54 => ?_)
                  · have hF := q_if_f c_54 hF
                    refine lv_iconst (v := 0) hx hb dL_law_1146 (by decide) ?_
                    refine lv_istore (lv' := [(14, .int 0), (5, .int (v5_1 + 1)), (6, .int v6_36), (13, .int v13_8), (15, .int v15_5), (16, .int v16_1), (0, .ref b), (1, .ref qX), (2, .int v2), (4, .int v4), (7, .int v7), (9, .int v9), (10, .int v10), (11, .int v11)]) hx hb dL_law_1147 hl (by decide) rfl (fun ls hl => ?_)
                    refine lv_iinc (v := v16_1 + 1) (lv' := [(16, .int (v16_1 + 1)), (14, .int 0), (5, .int (v5_1 + 1)), (6, .int v6_36), (13, .int v13_8), (15, .int v15_5), (0, .ref b), (1, .ref qX), (2, .int v2), (4, .int v4), (7, .int v7), (9, .int v9), (10, .int v10), (11, .int v11)]) hx hb dL_law_1149 hl (k := 5) rfl rfl (by decide) rfl (fun ls hl => ?_)
                    refine lv_goto (tgt := 1010) hx hb dL_law_1152 (by decide) ?_
                    exact ag (v16_1 + 1, v15_5, v5_1 + 1, v6_36, v13_8, (0 : Int32), σP_39, σD_51, σN_50) hF _ _ _ hP hD hS (lv_sub hl [0, 5, 6, 7, 8, 9, 2, 3, 10, 11, 12, 13, 4, 1] rfl)
                  · have hF := q_if_t (by first | exact c_54 | exact Classical.not_not.mp c_54) hF
                    refine lv_aload_n hx hb dL_law_1121 rfl (lv_at hl 6 rfl) ?_
                    refine lv_iload hx hb dL_law_1122 (lv_at hl 11 rfl) ?_
                    refine lv_iconst (v := 0) hx hb dL_law_1124 (by decide) ?_
                    obtain ⟨⟨r_55, σN_56, σD_57⟩, h_58, hF⟩ := q_cl_s hF
                    try dsimp only at hF
                    refine gcV_i (As := [.int v10, .int 0]) (rest := []) (ci := 6) (q := (RX6, TX6, 8)) F hK hN hP hD hS hA (m_X6_behind l g H.size qX AX σN_50 AP σP_39 AD σD_51 AC σC v10 (0 : Int32) r_55 σN_56 σD_57 h_58) gL_law_X6_behind kX6_behind rfl rfl rfl rfl ⟨(Nat.le_of_ble_eq_true rfl), (Nat.le_of_ble_eq_true rfl)⟩ [0, 19, 17, 18, 9, 10, 11, 12, 13, 14, 15, 16, 1, 2, 3, 4, 5, 6, 7, 8] [20, 21, 22, 23, 24, 25, 26, 27, 28, 29, 30, 31] rfl rfl rfl (by decide) rfl rfl rfl rfl rfl hl.1 (Nat.le_of_ble_eq_true rfl) dL_law_1125 ⟨(Nat.le_of_ble_eq_true rfl), (Nat.le_of_ble_eq_true rfl)⟩ (fun r_w u_w H locs hw hP hD hS => ?_)
                    have hP : va_P g.1 vwCl (wX6 qX AX ++ wX1 g (AX 0) AC σC ++ wX1 g (AX 1) AD σD_57 ++ wX3 g (AX 3) AP σP_39 ++ wX2 (AX 4) σN_56 ++ wX5 g (AX 5) AW (.ref qH) σW ++ wX4 g (AX 6) AY σY ++ wX0 g (AX 7) AK σK ℓK ++ wH g qH σH) H := hP.sub [12, 24, 25, 26, 27, 28, 29, 30, 31, 16, 17, 18, 19, 20, 21, 22, 23, 14, 15, 13, 0, 1, 2, 3, 4, 5, 6, 7, 8, 9, 10, 11] rfl
                    have hD : va_D Z (wX6 qX AX ++ wX1 g (AX 0) AC σC ++ wX1 g (AX 1) AD σD_57 ++ wX3 g (AX 3) AP σP_39 ++ wX2 (AX 4) σN_56 ++ wX5 g (AX 5) AW (.ref qH) σW ++ wX4 g (AX 6) AY σY ++ wX0 g (AX 7) AK σK ℓK ++ wH g qH σH) := hD.sub [12, 24, 25, 26, 27, 28, 29, 30, 31, 16, 17, 18, 19, 20, 21, 22, 23, 14, 15, 13, 0, 1, 2, 3, 4, 5, 6, 7, 8, 9, 10, 11] (by decide) rfl
                    obtain rfl : r_55 = r_w := hw.symm
                    refine lv_iload hx hb dL_law_1128 (lv_at hl 3 rfl) ?_
                    refine lv_if_eq (tgt := 1137) hx hb dL_law_1130 (by decide) (fun c_60 => ?_) (fun c_60 => ?_)
                    · have hF := q_if_t c_60 hF
                      refine lv_bipush (v := (-6)) hx hb dL_law_1137 (by decide) ?_
                      refine lv_icmp_ne (tgt := 1146) hx hb dL_law_1139 (by decide) (fun c_61 => ?_) (fun c_61 => ?_)
                      · have hF := q_if_f c_61 hF
                        refine lv_iconst (v := 0) hx hb dL_law_1146 (by decide) ?_
                        refine lv_istore (lv' := [(14, .int 0), (5, .int (v5_1 + 1)), (6, .int v6_36), (13, .int v13_8), (15, .int v15_5), (16, .int v16_1), (0, .ref b), (1, .ref qX), (2, .int v2), (4, .int v4), (7, .int v7), (9, .int v9), (10, .int v10), (11, .int v11)]) hx hb dL_law_1147 hl (by decide) rfl (fun ls hl => ?_)
                        refine lv_iinc (v := v16_1 + 1) (lv' := [(16, .int (v16_1 + 1)), (14, .int 0), (5, .int (v5_1 + 1)), (6, .int v6_36), (13, .int v13_8), (15, .int v15_5), (0, .ref b), (1, .ref qX), (2, .int v2), (4, .int v4), (7, .int v7), (9, .int v9), (10, .int v10), (11, .int v11)]) hx hb dL_law_1149 hl (k := 5) rfl rfl (by decide) rfl (fun ls hl => ?_)
                        refine lv_goto (tgt := 1010) hx hb dL_law_1152 (by decide) ?_
                        exact ag (v16_1 + 1, v15_5, v5_1 + 1, v6_36, v13_8, (0 : Int32), σP_39, σD_57, σN_56) hF _ _ _ hP hD hS (lv_sub hl [0, 5, 6, 7, 8, 9, 2, 3, 10, 11, 12, 13, 4, 1] rfl)
                      · have hF := q_if_t (by first | exact c_61 | exact Classical.not_not.mp c_61) hF
                        refine lv_iconst (v := 1) hx hb dL_law_1142 (by decide) ?_
                        refine lv_goto (tgt := 1147) hx hb dL_law_1143 (by decide) ?_
                        refine lv_istore (lv' := [(14, .int 1), (5, .int (v5_1 + 1)), (6, .int v6_36), (13, .int v13_8), (15, .int v15_5), (16, .int v16_1), (0, .ref b), (1, .ref qX), (2, .int v2), (4, .int v4), (7, .int v7), (9, .int v9), (10, .int v10), (11, .int v11)]) hx hb dL_law_1147 hl (by decide) rfl (fun ls hl => ?_)
                        refine lv_iinc (v := v16_1 + 1) (lv' := [(16, .int (v16_1 + 1)), (14, .int 1), (5, .int (v5_1 + 1)), (6, .int v6_36), (13, .int v13_8), (15, .int v15_5), (0, .ref b), (1, .ref qX), (2, .int v2), (4, .int v4), (7, .int v7), (9, .int v9), (10, .int v10), (11, .int v11)]) hx hb dL_law_1149 hl (k := 5) rfl rfl (by decide) rfl (fun ls hl => ?_)
                        refine lv_goto (tgt := 1010) hx hb dL_law_1152 (by decide) ?_
                        exact ag (v16_1 + 1, v15_5, v5_1 + 1, v6_36, v13_8, (1 : Int32), σP_39, σD_57, σN_56) hF _ _ _ hP hD hS (lv_sub hl [0, 5, 6, 7, 8, 9, 2, 3, 10, 11, 12, 13, 4, 1] rfl)
                    · have hF := q_if_f c_60 hF
                      refine lv_iconst (v := 3) hx hb dL_law_1133 (by decide) ?_
                      refine lv_goto (tgt := 1139) hx hb dL_law_1134 (by decide) ?_
                      refine lv_icmp_ne (tgt := 1146) hx hb dL_law_1139 (by decide) (fun c_62 => ?_) (fun c_62 => ?_)
                      · have hF := q_if_f c_62 hF
                        refine lv_iconst (v := 0) hx hb dL_law_1146 (by decide) ?_
                        refine lv_istore (lv' := [(14, .int 0), (5, .int (v5_1 + 1)), (6, .int v6_36), (13, .int v13_8), (15, .int v15_5), (16, .int v16_1), (0, .ref b), (1, .ref qX), (2, .int v2), (4, .int v4), (7, .int v7), (9, .int v9), (10, .int v10), (11, .int v11)]) hx hb dL_law_1147 hl (by decide) rfl (fun ls hl => ?_)
                        refine lv_iinc (v := v16_1 + 1) (lv' := [(16, .int (v16_1 + 1)), (14, .int 0), (5, .int (v5_1 + 1)), (6, .int v6_36), (13, .int v13_8), (15, .int v15_5), (0, .ref b), (1, .ref qX), (2, .int v2), (4, .int v4), (7, .int v7), (9, .int v9), (10, .int v10), (11, .int v11)]) hx hb dL_law_1149 hl (k := 5) rfl rfl (by decide) rfl (fun ls hl => ?_)
                        refine lv_goto (tgt := 1010) hx hb dL_law_1152 (by decide) ?_
                        exact ag (v16_1 + 1, v15_5, v5_1 + 1, v6_36, v13_8, (0 : Int32), σP_39, σD_57, σN_56) hF _ _ _ hP hD hS (lv_sub hl [0, 5, 6, 7, 8, 9, 2, 3, 10, 11, 12, 13, 4, 1] rfl)
                      · have hF := q_if_t (by first | exact c_62 | exact Classical.not_not.mp c_62) hF
                        refine lv_iconst (v := 1) hx hb dL_law_1142 (by decide) ?_
                        refine lv_goto (tgt := 1147) hx hb dL_law_1143 (by decide) ?_
                        refine lv_istore (lv' := [(14, .int 1), (5, .int (v5_1 + 1)), (6, .int v6_36), (13, .int v13_8), (15, .int v15_5), (16, .int v16_1), (0, .ref b), (1, .ref qX), (2, .int v2), (4, .int v4), (7, .int v7), (9, .int v9), (10, .int v10), (11, .int v11)]) hx hb dL_law_1147 hl (by decide) rfl (fun ls hl => ?_)
                        refine lv_iinc (v := v16_1 + 1) (lv' := [(16, .int (v16_1 + 1)), (14, .int 1), (5, .int (v5_1 + 1)), (6, .int v6_36), (13, .int v13_8), (15, .int v15_5), (0, .ref b), (1, .ref qX), (2, .int v2), (4, .int v4), (7, .int v7), (9, .int v9), (10, .int v10), (11, .int v11)]) hx hb dL_law_1149 hl (k := 5) rfl rfl (by decide) rfl (fun ls hl => ?_)
                        refine lv_goto (tgt := 1010) hx hb dL_law_1152 (by decide) ?_
                        exact ag (v16_1 + 1, v15_5, v5_1 + 1, v6_36, v13_8, (1 : Int32), σP_39, σD_57, σN_56) hF _ _ _ hP hD hS (lv_sub hl [0, 5, 6, 7, 8, 9, 2, 3, 10, 11, 12, 13, 4, 1] rfl)
          · have hF := q_if_f c_7 hF
            refine lv_iload hx hb dL_law_1054 (lv_at hl 12 rfl) ?_
            refine lv_bipush (v := 9) hx hb dL_law_1056 (by decide) ?_
            refine lv_icmp_ne (tgt := 1065) hx hb dL_law_1058 (by decide) (fun c_63 => ?_) (fun c_63 => ?_)
            · have hF := q_if_f c_63 hF
              refine lv_iconst (v := 1) hx hb dL_law_1065 (by decide) ?_
              refine lv_iadd hx hb dL_law_1066 ?_
              obtain ⟨v13_64, e_65, hF⟩ := q_bd_s hF
              refine gtop e_65 ?_
              refine lv_istore (lv' := [(13, .int v13_64), (15, .int v15_5), (16, .int v16_1), (0, .ref b), (1, .ref qX), (2, .int v2), (4, .int v4), (5, .int v5_1), (6, .int v6_1), (7, .int v7), (9, .int v9), (10, .int v10), (11, .int v11), (14, .int v14_1)]) hx hb dL_law_1067 hl (by decide) rfl (fun ls hl => ?_)
              refine lv_iload hx hb dL_law_1069 (lv_at hl 8 rfl) ?_
              refine lv_iconst (v := 5) hx hb dL_law_1071 (by decide) ?_
              refine lv_icmp_le (tgt := 1082) hx hb dL_law_1072 (by decide) (fun c_66 => ?_) (fun c_66 => ?_)
              · have hF := q_if_t c_66 hF
                refine lv_iconst (v := 0) hx hb dL_law_1082 (by decide) ?_
                refine lv_istore (lv' := [(6, .int 0), (13, .int v13_64), (15, .int v15_5), (16, .int v16_1), (0, .ref b), (1, .ref qX), (2, .int v2), (4, .int v4), (5, .int v5_1), (7, .int v7), (9, .int v9), (10, .int v10), (11, .int v11), (14, .int v14_1)]) hx hb dL_law_1083 hl (by decide) rfl (fun ls hl => ?_)
                refine lv_iinc (v := v5_1 + 1) (lv' := [(5, .int (v5_1 + 1)), (6, .int 0), (13, .int v13_64), (15, .int v15_5), (16, .int v16_1), (0, .ref b), (1, .ref qX), (2, .int v2), (4, .int v4), (7, .int v7), (9, .int v9), (10, .int v10), (11, .int v11), (14, .int v14_1)]) hx hb dL_law_1085 hl (k := 8) rfl rfl (by decide) rfl (fun ls hl => ?_)
                refine lv_aload_n hx hb dL_law_1088 rfl (lv_at hl 6 rfl) ?_
                refine lv_bipush (v := 42) hx hb dL_law_1089 (by decide) ?_
                obtain ⟨⟨r_67, σP_68⟩, h_69, hF⟩ := q_cl_s hF
                try dsimp only at hF
                refine gcV_i (As := [.int 42]) (rest := []) (ci := 6) (q := (RX6, TX6, 8)) F hK hN hP hD hS hA (m_X6_say l g H.size qX AX AP σP_1 (42 : Int32) r_67 σP_68 h_69) gL_law_X6_say kX6_say rfl rfl rfl rfl ⟨(Nat.le_of_ble_eq_true rfl), (Nat.le_of_ble_eq_true rfl)⟩ [0, 17, 18] [1, 2, 3, 4, 5, 6, 7, 8, 9, 10, 11, 12, 13, 14, 15, 16, 19, 20, 21, 22, 23, 24, 25, 26, 27, 28, 29, 30, 31] rfl rfl rfl (by decide) rfl rfl rfl rfl rfl hl.1 (Nat.le_of_ble_eq_true rfl) dL_law_1091 ⟨(Nat.le_of_ble_eq_true rfl), (Nat.le_of_ble_eq_true rfl)⟩ (fun r_w u_w H locs hw hP hD hS => ?_)
                have hP : va_P g.1 vwCl (wX6 qX AX ++ wX1 g (AX 0) AC σC ++ wX1 g (AX 1) AD σD_1 ++ wX3 g (AX 3) AP σP_68 ++ wX2 (AX 4) σN_1 ++ wX5 g (AX 5) AW (.ref qH) σW ++ wX4 g (AX 6) AY σY ++ wX0 g (AX 7) AK σK ℓK ++ wH g qH σH) H := hP.sub [29, 0, 1, 2, 3, 4, 5, 6, 7, 8, 9, 10, 11, 12, 13, 14, 15, 30, 31, 16, 17, 18, 19, 20, 21, 22, 23, 24, 25, 26, 27, 28] rfl
                have hD : va_D Z (wX6 qX AX ++ wX1 g (AX 0) AC σC ++ wX1 g (AX 1) AD σD_1 ++ wX3 g (AX 3) AP σP_68 ++ wX2 (AX 4) σN_1 ++ wX5 g (AX 5) AW (.ref qH) σW ++ wX4 g (AX 6) AY σY ++ wX0 g (AX 7) AK σK ℓK ++ wH g qH σH) := hD.sub [29, 0, 1, 2, 3, 4, 5, 6, 7, 8, 9, 10, 11, 12, 13, 14, 15, 30, 31, 16, 17, 18, 19, 20, 21, 22, 23, 24, 25, 26, 27, 28] (by decide) rfl
                obtain rfl : r_67 = r_w := hw.symm
                refine lv_iload hx hb dL_law_1094 (lv_at hl 0 rfl) ?_
                refine lv_icmp_ne (tgt := 1146) hx hb dL_law_1096 (by decide) (fun c_71 => ?_) (fun c_71 => ?_)
                · have hF := q_if_f c_71 hF
                  refine lv_iconst (v := 0) hx hb dL_law_1146 (by decide) ?_
                  refine lv_istore (lv' := [(14, .int 0), (5, .int (v5_1 + 1)), (6, .int 0), (13, .int v13_64), (15, .int v15_5), (16, .int v16_1), (0, .ref b), (1, .ref qX), (2, .int v2), (4, .int v4), (7, .int v7), (9, .int v9), (10, .int v10), (11, .int v11)]) hx hb dL_law_1147 hl (by decide) rfl (fun ls hl => ?_)
                  refine lv_iinc (v := v16_1 + 1) (lv' := [(16, .int (v16_1 + 1)), (14, .int 0), (5, .int (v5_1 + 1)), (6, .int 0), (13, .int v13_64), (15, .int v15_5), (0, .ref b), (1, .ref qX), (2, .int v2), (4, .int v4), (7, .int v7), (9, .int v9), (10, .int v10), (11, .int v11)]) hx hb dL_law_1149 hl (k := 5) rfl rfl (by decide) rfl (fun ls hl => ?_)
                  refine lv_goto (tgt := 1010) hx hb dL_law_1152 (by decide) ?_
                  exact ag (v16_1 + 1, v15_5, v5_1 + 1, (0 : Int32), v13_64, (0 : Int32), σP_68, σD_1, σN_1) hF _ _ _ hP hD hS (lv_sub hl [0, 5, 6, 7, 8, 9, 2, 3, 10, 11, 12, 13, 4, 1] rfl)
                · have hF := q_if_t (by first | exact c_71 | exact Classical.not_not.mp c_71) hF
                  refine lv_aload_n hx hb dL_law_1099 rfl (lv_at hl 6 rfl) ?_
                  refine lv_iconst (v := 1) hx hb dL_law_1100 (by decide) ?_
                  obtain ⟨⟨r_72, σN_73, σD_74⟩, h_75, hF⟩ := q_cl_s hF
                  try dsimp only at hF
                  refine gcV_i (As := [.int 1]) (rest := []) (ci := 6) (q := (RX6, TX6, 8)) F hK hN hP hD hS hA (m_X6_pan l g H.size qX AX σN_1 AP σP_68 AD σD_1 AC σC (1 : Int32) r_72 σN_73 σD_74 h_75) gL_law_X6_pan kX6_pan rfl rfl rfl rfl ⟨(Nat.le_of_ble_eq_true rfl), (Nat.le_of_ble_eq_true rfl)⟩ [0, 19, 17, 18, 9, 10, 11, 12, 13, 14, 15, 16, 1, 2, 3, 4, 5, 6, 7, 8] [20, 21, 22, 23, 24, 25, 26, 27, 28, 29, 30, 31] rfl rfl rfl (by decide) rfl rfl rfl rfl rfl hl.1 (Nat.le_of_ble_eq_true rfl) dL_law_1101 ⟨(Nat.le_of_ble_eq_true rfl), (Nat.le_of_ble_eq_true rfl)⟩ (fun r_w u_w H locs hw hP hD hS => ?_)
                  have hP : va_P g.1 vwCl (wX6 qX AX ++ wX1 g (AX 0) AC σC ++ wX1 g (AX 1) AD σD_74 ++ wX3 g (AX 3) AP σP_68 ++ wX2 (AX 4) σN_73 ++ wX5 g (AX 5) AW (.ref qH) σW ++ wX4 g (AX 6) AY σY ++ wX0 g (AX 7) AK σK ℓK ++ wH g qH σH) H := hP.sub [12, 24, 25, 26, 27, 28, 29, 30, 31, 16, 17, 18, 19, 20, 21, 22, 23, 14, 15, 13, 0, 1, 2, 3, 4, 5, 6, 7, 8, 9, 10, 11] rfl
                  have hD : va_D Z (wX6 qX AX ++ wX1 g (AX 0) AC σC ++ wX1 g (AX 1) AD σD_74 ++ wX3 g (AX 3) AP σP_68 ++ wX2 (AX 4) σN_73 ++ wX5 g (AX 5) AW (.ref qH) σW ++ wX4 g (AX 6) AY σY ++ wX0 g (AX 7) AK σK ℓK ++ wH g qH σH) := hD.sub [12, 24, 25, 26, 27, 28, 29, 30, 31, 16, 17, 18, 19, 20, 21, 22, 23, 14, 15, 13, 0, 1, 2, 3, 4, 5, 6, 7, 8, 9, 10, 11] (by decide) rfl
                  obtain rfl : r_72 = r_w := hw.symm
                  refine lv_iload hx hb dL_law_1104 (lv_at hl 1 rfl) ?_
                  refine lv_icmp_ne (tgt := 1146) hx hb dL_law_1106 (by decide) (fun c_77 => ?_) (fun c_77 => ?_)
                  · have hF := q_if_f c_77 hF
                    refine lv_iconst (v := 0) hx hb dL_law_1146 (by decide) ?_
                    refine lv_istore (lv' := [(14, .int 0), (5, .int (v5_1 + 1)), (6, .int 0), (13, .int v13_64), (15, .int v15_5), (16, .int v16_1), (0, .ref b), (1, .ref qX), (2, .int v2), (4, .int v4), (7, .int v7), (9, .int v9), (10, .int v10), (11, .int v11)]) hx hb dL_law_1147 hl (by decide) rfl (fun ls hl => ?_)
                    refine lv_iinc (v := v16_1 + 1) (lv' := [(16, .int (v16_1 + 1)), (14, .int 0), (5, .int (v5_1 + 1)), (6, .int 0), (13, .int v13_64), (15, .int v15_5), (0, .ref b), (1, .ref qX), (2, .int v2), (4, .int v4), (7, .int v7), (9, .int v9), (10, .int v10), (11, .int v11)]) hx hb dL_law_1149 hl (k := 5) rfl rfl (by decide) rfl (fun ls hl => ?_)
                    refine lv_goto (tgt := 1010) hx hb dL_law_1152 (by decide) ?_
                    exact ag (v16_1 + 1, v15_5, v5_1 + 1, (0 : Int32), v13_64, (0 : Int32), σP_68, σD_74, σN_73) hF _ _ _ hP hD hS (lv_sub hl [0, 5, 6, 7, 8, 9, 2, 3, 10, 11, 12, 13, 4, 1] rfl)
                  · have hF := q_if_t (by first | exact c_77 | exact Classical.not_not.mp c_77) hF
                    refine lv_aload_n hx hb dL_law_1109 rfl (lv_at hl 6 rfl) ?_
                    refine lv_iload hx hb dL_law_1110 (lv_at hl 11 rfl) ?_
                    refine lv_iconst (v := 1) hx hb dL_law_1112 (by decide) ?_
                    obtain ⟨⟨r_78, σN_79, σD_80⟩, h_81, hF⟩ := q_cl_s hF
                    try dsimp only at hF
                    refine gcV_i (As := [.int v10, .int 1]) (rest := []) (ci := 6) (q := (RX6, TX6, 8)) F hK hN hP hD hS hA (m_X6_behind l g H.size qX AX σN_73 AP σP_68 AD σD_74 AC σC v10 (1 : Int32) r_78 σN_79 σD_80 h_81) gL_law_X6_behind kX6_behind rfl rfl rfl rfl ⟨(Nat.le_of_ble_eq_true rfl), (Nat.le_of_ble_eq_true rfl)⟩ [0, 19, 17, 18, 9, 10, 11, 12, 13, 14, 15, 16, 1, 2, 3, 4, 5, 6, 7, 8] [20, 21, 22, 23, 24, 25, 26, 27, 28, 29, 30, 31] rfl rfl rfl (by decide) rfl rfl rfl rfl rfl hl.1 (Nat.le_of_ble_eq_true rfl) dL_law_1113 ⟨(Nat.le_of_ble_eq_true rfl), (Nat.le_of_ble_eq_true rfl)⟩ (fun r_w u_w H locs hw hP hD hS => ?_)
                    have hP : va_P g.1 vwCl (wX6 qX AX ++ wX1 g (AX 0) AC σC ++ wX1 g (AX 1) AD σD_80 ++ wX3 g (AX 3) AP σP_68 ++ wX2 (AX 4) σN_79 ++ wX5 g (AX 5) AW (.ref qH) σW ++ wX4 g (AX 6) AY σY ++ wX0 g (AX 7) AK σK ℓK ++ wH g qH σH) H := hP.sub [12, 24, 25, 26, 27, 28, 29, 30, 31, 16, 17, 18, 19, 20, 21, 22, 23, 14, 15, 13, 0, 1, 2, 3, 4, 5, 6, 7, 8, 9, 10, 11] rfl
                    have hD : va_D Z (wX6 qX AX ++ wX1 g (AX 0) AC σC ++ wX1 g (AX 1) AD σD_80 ++ wX3 g (AX 3) AP σP_68 ++ wX2 (AX 4) σN_79 ++ wX5 g (AX 5) AW (.ref qH) σW ++ wX4 g (AX 6) AY σY ++ wX0 g (AX 7) AK σK ℓK ++ wH g qH σH) := hD.sub [12, 24, 25, 26, 27, 28, 29, 30, 31, 16, 17, 18, 19, 20, 21, 22, 23, 14, 15, 13, 0, 1, 2, 3, 4, 5, 6, 7, 8, 9, 10, 11] (by decide) rfl
                    obtain rfl : r_78 = r_w := hw.symm
                    refine lv_iload hx hb dL_law_1116 (lv_at hl 2 rfl) ?_
                    refine lv_icmp_ne (tgt := 1146) hx hb dL_law_1118 (by decide) (fun c_83 => ?_) (fun c_83 => ?_)
                    · have hF := q_if_f c_83 hF
                      refine lv_iconst (v := 0) hx hb dL_law_1146 (by decide) ?_
                      refine lv_istore (lv' := [(14, .int 0), (5, .int (v5_1 + 1)), (6, .int 0), (13, .int v13_64), (15, .int v15_5), (16, .int v16_1), (0, .ref b), (1, .ref qX), (2, .int v2), (4, .int v4), (7, .int v7), (9, .int v9), (10, .int v10), (11, .int v11)]) hx hb dL_law_1147 hl (by decide) rfl (fun ls hl => ?_)
                      refine lv_iinc (v := v16_1 + 1) (lv' := [(16, .int (v16_1 + 1)), (14, .int 0), (5, .int (v5_1 + 1)), (6, .int 0), (13, .int v13_64), (15, .int v15_5), (0, .ref b), (1, .ref qX), (2, .int v2), (4, .int v4), (7, .int v7), (9, .int v9), (10, .int v10), (11, .int v11)]) hx hb dL_law_1149 hl (k := 5) rfl rfl (by decide) rfl (fun ls hl => ?_)
                      refine lv_goto (tgt := 1010) hx hb dL_law_1152 (by decide) ?_
                      exact ag (v16_1 + 1, v15_5, v5_1 + 1, (0 : Int32), v13_64, (0 : Int32), σP_68, σD_80, σN_79) hF _ _ _ hP hD hS (lv_sub hl [0, 5, 6, 7, 8, 9, 2, 3, 10, 11, 12, 13, 4, 1] rfl)
                    · have hF := q_if_t (by first | exact c_83 | exact Classical.not_not.mp c_83) hF
                      refine lv_aload_n hx hb dL_law_1121 rfl (lv_at hl 6 rfl) ?_
                      refine lv_iload hx hb dL_law_1122 (lv_at hl 11 rfl) ?_
                      refine lv_iconst (v := 0) hx hb dL_law_1124 (by decide) ?_
                      obtain ⟨⟨r_84, σN_85, σD_86⟩, h_87, hF⟩ := q_cl_s hF
                      try dsimp only at hF
                      refine gcV_i (As := [.int v10, .int 0]) (rest := []) (ci := 6) (q := (RX6, TX6, 8)) F hK hN hP hD hS hA (m_X6_behind l g H.size qX AX σN_79 AP σP_68 AD σD_80 AC σC v10 (0 : Int32) r_84 σN_85 σD_86 h_87) gL_law_X6_behind kX6_behind rfl rfl rfl rfl ⟨(Nat.le_of_ble_eq_true rfl), (Nat.le_of_ble_eq_true rfl)⟩ [0, 19, 17, 18, 9, 10, 11, 12, 13, 14, 15, 16, 1, 2, 3, 4, 5, 6, 7, 8] [20, 21, 22, 23, 24, 25, 26, 27, 28, 29, 30, 31] rfl rfl rfl (by decide) rfl rfl rfl rfl rfl hl.1 (Nat.le_of_ble_eq_true rfl) dL_law_1125 ⟨(Nat.le_of_ble_eq_true rfl), (Nat.le_of_ble_eq_true rfl)⟩ (fun r_w u_w H locs hw hP hD hS => ?_)
                      have hP : va_P g.1 vwCl (wX6 qX AX ++ wX1 g (AX 0) AC σC ++ wX1 g (AX 1) AD σD_86 ++ wX3 g (AX 3) AP σP_68 ++ wX2 (AX 4) σN_85 ++ wX5 g (AX 5) AW (.ref qH) σW ++ wX4 g (AX 6) AY σY ++ wX0 g (AX 7) AK σK ℓK ++ wH g qH σH) H := hP.sub [12, 24, 25, 26, 27, 28, 29, 30, 31, 16, 17, 18, 19, 20, 21, 22, 23, 14, 15, 13, 0, 1, 2, 3, 4, 5, 6, 7, 8, 9, 10, 11] rfl
                      have hD : va_D Z (wX6 qX AX ++ wX1 g (AX 0) AC σC ++ wX1 g (AX 1) AD σD_86 ++ wX3 g (AX 3) AP σP_68 ++ wX2 (AX 4) σN_85 ++ wX5 g (AX 5) AW (.ref qH) σW ++ wX4 g (AX 6) AY σY ++ wX0 g (AX 7) AK σK ℓK ++ wH g qH σH) := hD.sub [12, 24, 25, 26, 27, 28, 29, 30, 31, 16, 17, 18, 19, 20, 21, 22, 23, 14, 15, 13, 0, 1, 2, 3, 4, 5, 6, 7, 8, 9, 10, 11] (by decide) rfl
                      obtain rfl : r_84 = r_w := hw.symm
                      refine lv_iload hx hb dL_law_1128 (lv_at hl 3 rfl) ?_
                      refine lv_if_eq (tgt := 1137) hx hb dL_law_1130 (by decide) (fun c_89 => ?_) (fun c_89 => ?_)
                      · have hF := q_if_t c_89 hF
                        refine lv_bipush (v := (-6)) hx hb dL_law_1137 (by decide) ?_
                        refine lv_icmp_ne (tgt := 1146) hx hb dL_law_1139 (by decide) (fun c_90 => ?_) (fun c_90 => ?_)
                        · have hF := q_if_f c_90 hF
                          refine lv_iconst (v := 0) hx hb dL_law_1146 (by decide) ?_
                          refine lv_istore (lv' := [(14, .int 0), (5, .int (v5_1 + 1)), (6, .int 0), (13, .int v13_64), (15, .int v15_5), (16, .int v16_1), (0, .ref b), (1, .ref qX), (2, .int v2), (4, .int v4), (7, .int v7), (9, .int v9), (10, .int v10), (11, .int v11)]) hx hb dL_law_1147 hl (by decide) rfl (fun ls hl => ?_)
                          refine lv_iinc (v := v16_1 + 1) (lv' := [(16, .int (v16_1 + 1)), (14, .int 0), (5, .int (v5_1 + 1)), (6, .int 0), (13, .int v13_64), (15, .int v15_5), (0, .ref b), (1, .ref qX), (2, .int v2), (4, .int v4), (7, .int v7), (9, .int v9), (10, .int v10), (11, .int v11)]) hx hb dL_law_1149 hl (k := 5) rfl rfl (by decide) rfl (fun ls hl => ?_)
                          refine lv_goto (tgt := 1010) hx hb dL_law_1152 (by decide) ?_
                          exact ag (v16_1 + 1, v15_5, v5_1 + 1, (0 : Int32), v13_64, (0 : Int32), σP_68, σD_86, σN_85) hF _ _ _ hP hD hS (lv_sub hl [0, 5, 6, 7, 8, 9, 2, 3, 10, 11, 12, 13, 4, 1] rfl)
                        · have hF := q_if_t (by first | exact c_90 | exact Classical.not_not.mp c_90) hF
                          refine lv_iconst (v := 1) hx hb dL_law_1142 (by decide) ?_
                          refine lv_goto (tgt := 1147) hx hb dL_law_1143 (by decide) ?_
                          refine lv_istore (lv' := [(14, .int 1), (5, .int (v5_1 + 1)), (6, .int 0), (13, .int v13_64), (15, .int v15_5), (16, .int v16_1), (0, .ref b), (1, .ref qX), (2, .int v2), (4, .int v4), (7, .int v7), (9, .int v9), (10, .int v10), (11, .int v11)]) hx hb dL_law_1147 hl (by decide) rfl (fun ls hl => ?_)
                          refine lv_iinc (v := v16_1 + 1) (lv' := [(16, .int (v16_1 + 1)), (14, .int 1), (5, .int (v5_1 + 1)), (6, .int 0), (13, .int v13_64), (15, .int v15_5), (0, .ref b), (1, .ref qX), (2, .int v2), (4, .int v4), (7, .int v7), (9, .int v9), (10, .int v10), (11, .int v11)]) hx hb dL_law_1149 hl (k := 5) rfl rfl (by decide) rfl (fun ls hl => ?_)
                          refine lv_goto (tgt := 1010) hx hb dL_law_1152 (by decide) ?_
                          exact ag (v16_1 + 1, v15_5, v5_1 + 1, (0 : Int32), v13_64, (1 : Int32), σP_68, σD_86, σN_85) hF _ _ _ hP hD hS (lv_sub hl [0, 5, 6, 7, 8, 9, 2, 3, 10, 11, 12, 13, 4, 1] rfl)
                      · have hF := q_if_f c_89 hF
                        refine lv_iconst (v := 3) hx hb dL_law_1133 (by decide) ?_
                        refine lv_goto (tgt := 1139) hx hb dL_law_1134 (by decide) ?_
                        refine lv_icmp_ne (tgt := 1146) hx hb dL_law_1139 (by decide) (fun c_91 => ?_) (fun c_91 => ?_)
                        · have hF := q_if_f c_91 hF
                          refine lv_iconst (v := 0) hx hb dL_law_1146 (by decide) ?_
                          refine lv_istore (lv' := [(14, .int 0), (5, .int (v5_1 + 1)), (6, .int 0), (13, .int v13_64), (15, .int v15_5), (16, .int v16_1), (0, .ref b), (1, .ref qX), (2, .int v2), (4, .int v4), (7, .int v7), (9, .int v9), (10, .int v10), (11, .int v11)]) hx hb dL_law_1147 hl (by decide) rfl (fun ls hl => ?_)
                          refine lv_iinc (v := v16_1 + 1) (lv' := [(16, .int (v16_1 + 1)), (14, .int 0), (5, .int (v5_1 + 1)), (6, .int 0), (13, .int v13_64), (15, .int v15_5), (0, .ref b), (1, .ref qX), (2, .int v2), (4, .int v4), (7, .int v7), (9, .int v9), (10, .int v10), (11, .int v11)]) hx hb dL_law_1149 hl (k := 5) rfl rfl (by decide) rfl (fun ls hl => ?_)
                          refine lv_goto (tgt := 1010) hx hb dL_law_1152 (by decide) ?_
                          exact ag (v16_1 + 1, v15_5, v5_1 + 1, (0 : Int32), v13_64, (0 : Int32), σP_68, σD_86, σN_85) hF _ _ _ hP hD hS (lv_sub hl [0, 5, 6, 7, 8, 9, 2, 3, 10, 11, 12, 13, 4, 1] rfl)
                        · have hF := q_if_t (by first | exact c_91 | exact Classical.not_not.mp c_91) hF
                          refine lv_iconst (v := 1) hx hb dL_law_1142 (by decide) ?_
                          refine lv_goto (tgt := 1147) hx hb dL_law_1143 (by decide) ?_
                          refine lv_istore (lv' := [(14, .int 1), (5, .int (v5_1 + 1)), (6, .int 0), (13, .int v13_64), (15, .int v15_5), (16, .int v16_1), (0, .ref b), (1, .ref qX), (2, .int v2), (4, .int v4), (7, .int v7), (9, .int v9), (10, .int v10), (11, .int v11)]) hx hb dL_law_1147 hl (by decide) rfl (fun ls hl => ?_)
                          refine lv_iinc (v := v16_1 + 1) (lv' := [(16, .int (v16_1 + 1)), (14, .int 1), (5, .int (v5_1 + 1)), (6, .int 0), (13, .int v13_64), (15, .int v15_5), (0, .ref b), (1, .ref qX), (2, .int v2), (4, .int v4), (7, .int v7), (9, .int v9), (10, .int v10), (11, .int v11)]) hx hb dL_law_1149 hl (k := 5) rfl rfl (by decide) rfl (fun ls hl => ?_)
                          refine lv_goto (tgt := 1010) hx hb dL_law_1152 (by decide) ?_
                          exact ag (v16_1 + 1, v15_5, v5_1 + 1, (0 : Int32), v13_64, (1 : Int32), σP_68, σD_86, σN_85) hF _ _ _ hP hD hS (lv_sub hl [0, 5, 6, 7, 8, 9, 2, 3, 10, 11, 12, 13, 4, 1] rfl)
              · have hF := q_if_f c_66 hF
                refine lv_iload hx hb dL_law_1075 (lv_at hl 8 rfl) ?_
                refine lv_iconst (v := 5) hx hb dL_law_1077 (by decide) ?_
                refine lv_isub hx hb dL_law_1078 ?_
                refine lv_goto (tgt := 1083) hx hb dL_law_1079 (by decide) ?_
                obtain ⟨v6_92, e_93, hF⟩ := q_bd_s hF
                refine gtop e_93 ?_
                refine lv_istore (lv' := [(6, .int v6_92), (13, .int v13_64), (15, .int v15_5), (16, .int v16_1), (0, .ref b), (1, .ref qX), (2, .int v2), (4, .int v4), (5, .int v5_1), (7, .int v7), (9, .int v9), (10, .int v10), (11, .int v11), (14, .int v14_1)]) hx hb dL_law_1083 hl (by decide) rfl (fun ls hl => ?_)
                refine lv_iinc (v := v5_1 + 1) (lv' := [(5, .int (v5_1 + 1)), (6, .int v6_92), (13, .int v13_64), (15, .int v15_5), (16, .int v16_1), (0, .ref b), (1, .ref qX), (2, .int v2), (4, .int v4), (7, .int v7), (9, .int v9), (10, .int v10), (11, .int v11), (14, .int v14_1)]) hx hb dL_law_1085 hl (k := 8) rfl rfl (by decide) rfl (fun ls hl => ?_)
                refine lv_aload_n hx hb dL_law_1088 rfl (lv_at hl 6 rfl) ?_
                refine lv_bipush (v := 42) hx hb dL_law_1089 (by decide) ?_
                obtain ⟨⟨r_94, σP_95⟩, h_96, hF⟩ := q_cl_s hF
                try dsimp only at hF
                refine gcV_i (As := [.int 42]) (rest := []) (ci := 6) (q := (RX6, TX6, 8)) F hK hN hP hD hS hA (m_X6_say l g H.size qX AX AP σP_1 (42 : Int32) r_94 σP_95 h_96) gL_law_X6_say kX6_say rfl rfl rfl rfl ⟨(Nat.le_of_ble_eq_true rfl), (Nat.le_of_ble_eq_true rfl)⟩ [0, 17, 18] [1, 2, 3, 4, 5, 6, 7, 8, 9, 10, 11, 12, 13, 14, 15, 16, 19, 20, 21, 22, 23, 24, 25, 26, 27, 28, 29, 30, 31] rfl rfl rfl (by decide) rfl rfl rfl rfl rfl hl.1 (Nat.le_of_ble_eq_true rfl) dL_law_1091 ⟨(Nat.le_of_ble_eq_true rfl), (Nat.le_of_ble_eq_true rfl)⟩ (fun r_w u_w H locs hw hP hD hS => ?_)
                have hP : va_P g.1 vwCl (wX6 qX AX ++ wX1 g (AX 0) AC σC ++ wX1 g (AX 1) AD σD_1 ++ wX3 g (AX 3) AP σP_95 ++ wX2 (AX 4) σN_1 ++ wX5 g (AX 5) AW (.ref qH) σW ++ wX4 g (AX 6) AY σY ++ wX0 g (AX 7) AK σK ℓK ++ wH g qH σH) H := hP.sub [29, 0, 1, 2, 3, 4, 5, 6, 7, 8, 9, 10, 11, 12, 13, 14, 15, 30, 31, 16, 17, 18, 19, 20, 21, 22, 23, 24, 25, 26, 27, 28] rfl
                have hD : va_D Z (wX6 qX AX ++ wX1 g (AX 0) AC σC ++ wX1 g (AX 1) AD σD_1 ++ wX3 g (AX 3) AP σP_95 ++ wX2 (AX 4) σN_1 ++ wX5 g (AX 5) AW (.ref qH) σW ++ wX4 g (AX 6) AY σY ++ wX0 g (AX 7) AK σK ℓK ++ wH g qH σH) := hD.sub [29, 0, 1, 2, 3, 4, 5, 6, 7, 8, 9, 10, 11, 12, 13, 14, 15, 30, 31, 16, 17, 18, 19, 20, 21, 22, 23, 24, 25, 26, 27, 28] (by decide) rfl
                obtain rfl : r_94 = r_w := hw.symm
                refine lv_iload hx hb dL_law_1094 (lv_at hl 0 rfl) ?_
                refine lv_icmp_ne (tgt := 1146) hx hb dL_law_1096 (by decide) (fun c_98 => ?_) (fun c_98 => ?_)
                · have hF := q_if_f c_98 hF
                  refine lv_iconst (v := 0) hx hb dL_law_1146 (by decide) ?_
                  refine lv_istore (lv' := [(14, .int 0), (5, .int (v5_1 + 1)), (6, .int v6_92), (13, .int v13_64), (15, .int v15_5), (16, .int v16_1), (0, .ref b), (1, .ref qX), (2, .int v2), (4, .int v4), (7, .int v7), (9, .int v9), (10, .int v10), (11, .int v11)]) hx hb dL_law_1147 hl (by decide) rfl (fun ls hl => ?_)
                  refine lv_iinc (v := v16_1 + 1) (lv' := [(16, .int (v16_1 + 1)), (14, .int 0), (5, .int (v5_1 + 1)), (6, .int v6_92), (13, .int v13_64), (15, .int v15_5), (0, .ref b), (1, .ref qX), (2, .int v2), (4, .int v4), (7, .int v7), (9, .int v9), (10, .int v10), (11, .int v11)]) hx hb dL_law_1149 hl (k := 5) rfl rfl (by decide) rfl (fun ls hl => ?_)
                  refine lv_goto (tgt := 1010) hx hb dL_law_1152 (by decide) ?_
                  exact ag (v16_1 + 1, v15_5, v5_1 + 1, v6_92, v13_64, (0 : Int32), σP_95, σD_1, σN_1) hF _ _ _ hP hD hS (lv_sub hl [0, 5, 6, 7, 8, 9, 2, 3, 10, 11, 12, 13, 4, 1] rfl)
                · have hF := q_if_t (by first | exact c_98 | exact Classical.not_not.mp c_98) hF
                  refine lv_aload_n hx hb dL_law_1099 rfl (lv_at hl 6 rfl) ?_
                  refine lv_iconst (v := 1) hx hb dL_law_1100 (by decide) ?_
                  obtain ⟨⟨r_99, σN_100, σD_101⟩, h_102, hF⟩ := q_cl_s hF
                  try dsimp only at hF
                  refine gcV_i (As := [.int 1]) (rest := []) (ci := 6) (q := (RX6, TX6, 8)) F hK hN hP hD hS hA (m_X6_pan l g H.size qX AX σN_1 AP σP_95 AD σD_1 AC σC (1 : Int32) r_99 σN_100 σD_101 h_102) gL_law_X6_pan kX6_pan rfl rfl rfl rfl ⟨(Nat.le_of_ble_eq_true rfl), (Nat.le_of_ble_eq_true rfl)⟩ [0, 19, 17, 18, 9, 10, 11, 12, 13, 14, 15, 16, 1, 2, 3, 4, 5, 6, 7, 8] [20, 21, 22, 23, 24, 25, 26, 27, 28, 29, 30, 31] rfl rfl rfl (by decide) rfl rfl rfl rfl rfl hl.1 (Nat.le_of_ble_eq_true rfl) dL_law_1101 ⟨(Nat.le_of_ble_eq_true rfl), (Nat.le_of_ble_eq_true rfl)⟩ (fun r_w u_w H locs hw hP hD hS => ?_)
                  have hP : va_P g.1 vwCl (wX6 qX AX ++ wX1 g (AX 0) AC σC ++ wX1 g (AX 1) AD σD_101 ++ wX3 g (AX 3) AP σP_95 ++ wX2 (AX 4) σN_100 ++ wX5 g (AX 5) AW (.ref qH) σW ++ wX4 g (AX 6) AY σY ++ wX0 g (AX 7) AK σK ℓK ++ wH g qH σH) H := hP.sub [12, 24, 25, 26, 27, 28, 29, 30, 31, 16, 17, 18, 19, 20, 21, 22, 23, 14, 15, 13, 0, 1, 2, 3, 4, 5, 6, 7, 8, 9, 10, 11] rfl
                  have hD : va_D Z (wX6 qX AX ++ wX1 g (AX 0) AC σC ++ wX1 g (AX 1) AD σD_101 ++ wX3 g (AX 3) AP σP_95 ++ wX2 (AX 4) σN_100 ++ wX5 g (AX 5) AW (.ref qH) σW ++ wX4 g (AX 6) AY σY ++ wX0 g (AX 7) AK σK ℓK ++ wH g qH σH) := hD.sub [12, 24, 25, 26, 27, 28, 29, 30, 31, 16, 17, 18, 19, 20, 21, 22, 23, 14, 15, 13, 0, 1, 2, 3, 4, 5, 6, 7, 8, 9, 10, 11] (by decide) rfl
                  obtain rfl : r_99 = r_w := hw.symm
                  refine lv_iload hx hb dL_law_1104 (lv_at hl 1 rfl) ?_
                  refine lv_icmp_ne (tgt := 1146) hx hb dL_law_1106 (by decide) (fun c_104 => ?_) (fun c_104 => ?_)
                  · have hF := q_if_f c_104 hF
                    refine lv_iconst (v := 0) hx hb dL_law_1146 (by decide) ?_
                    refine lv_istore (lv' := [(14, .int 0), (5, .int (v5_1 + 1)), (6, .int v6_92), (13, .int v13_64), (15, .int v15_5), (16, .int v16_1), (0, .ref b), (1, .ref qX), (2, .int v2), (4, .int v4), (7, .int v7), (9, .int v9), (10, .int v10), (11, .int v11)]) hx hb dL_law_1147 hl (by decide) rfl (fun ls hl => ?_)
                    refine lv_iinc (v := v16_1 + 1) (lv' := [(16, .int (v16_1 + 1)), (14, .int 0), (5, .int (v5_1 + 1)), (6, .int v6_92), (13, .int v13_64), (15, .int v15_5), (0, .ref b), (1, .ref qX), (2, .int v2), (4, .int v4), (7, .int v7), (9, .int v9), (10, .int v10), (11, .int v11)]) hx hb dL_law_1149 hl (k := 5) rfl rfl (by decide) rfl (fun ls hl => ?_)
                    refine lv_goto (tgt := 1010) hx hb dL_law_1152 (by decide) ?_
                    exact ag (v16_1 + 1, v15_5, v5_1 + 1, v6_92, v13_64, (0 : Int32), σP_95, σD_101, σN_100) hF _ _ _ hP hD hS (lv_sub hl [0, 5, 6, 7, 8, 9, 2, 3, 10, 11, 12, 13, 4, 1] rfl)
                  · have hF := q_if_t (by first | exact c_104 | exact Classical.not_not.mp c_104) hF
                    refine lv_aload_n hx hb dL_law_1109 rfl (lv_at hl 6 rfl) ?_
                    refine lv_iload hx hb dL_law_1110 (lv_at hl 11 rfl) ?_
                    refine lv_iconst (v := 1) hx hb dL_law_1112 (by decide) ?_
                    obtain ⟨⟨r_105, σN_106, σD_107⟩, h_108, hF⟩ := q_cl_s hF
                    try dsimp only at hF
                    refine gcV_i (As := [.int v10, .int 1]) (rest := []) (ci := 6) (q := (RX6, TX6, 8)) F hK hN hP hD hS hA (m_X6_behind l g H.size qX AX σN_100 AP σP_95 AD σD_101 AC σC v10 (1 : Int32) r_105 σN_106 σD_107 h_108) gL_law_X6_behind kX6_behind rfl rfl rfl rfl ⟨(Nat.le_of_ble_eq_true rfl), (Nat.le_of_ble_eq_true rfl)⟩ [0, 19, 17, 18, 9, 10, 11, 12, 13, 14, 15, 16, 1, 2, 3, 4, 5, 6, 7, 8] [20, 21, 22, 23, 24, 25, 26, 27, 28, 29, 30, 31] rfl rfl rfl (by decide) rfl rfl rfl rfl rfl hl.1 (Nat.le_of_ble_eq_true rfl) dL_law_1113 ⟨(Nat.le_of_ble_eq_true rfl), (Nat.le_of_ble_eq_true rfl)⟩ (fun r_w u_w H locs hw hP hD hS => ?_)
                    have hP : va_P g.1 vwCl (wX6 qX AX ++ wX1 g (AX 0) AC σC ++ wX1 g (AX 1) AD σD_107 ++ wX3 g (AX 3) AP σP_95 ++ wX2 (AX 4) σN_106 ++ wX5 g (AX 5) AW (.ref qH) σW ++ wX4 g (AX 6) AY σY ++ wX0 g (AX 7) AK σK ℓK ++ wH g qH σH) H := hP.sub [12, 24, 25, 26, 27, 28, 29, 30, 31, 16, 17, 18, 19, 20, 21, 22, 23, 14, 15, 13, 0, 1, 2, 3, 4, 5, 6, 7, 8, 9, 10, 11] rfl
                    have hD : va_D Z (wX6 qX AX ++ wX1 g (AX 0) AC σC ++ wX1 g (AX 1) AD σD_107 ++ wX3 g (AX 3) AP σP_95 ++ wX2 (AX 4) σN_106 ++ wX5 g (AX 5) AW (.ref qH) σW ++ wX4 g (AX 6) AY σY ++ wX0 g (AX 7) AK σK ℓK ++ wH g qH σH) := hD.sub [12, 24, 25, 26, 27, 28, 29, 30, 31, 16, 17, 18, 19, 20, 21, 22, 23, 14, 15, 13, 0, 1, 2, 3, 4, 5, 6, 7, 8, 9, 10, 11] (by decide) rfl
                    obtain rfl : r_105 = r_w := hw.symm
                    refine lv_iload hx hb dL_law_1116 (lv_at hl 2 rfl) ?_
                    refine lv_icmp_ne (tgt := 1146) hx hb dL_law_1118 (by decide) (fun c_110 => ?_) (fun c_110 => ?_)
                    · have hF := q_if_f c_110 hF
                      refine lv_iconst (v := 0) hx hb dL_law_1146 (by decide) ?_
                      refine lv_istore (lv' := [(14, .int 0), (5, .int (v5_1 + 1)), (6, .int v6_92), (13, .int v13_64), (15, .int v15_5), (16, .int v16_1), (0, .ref b), (1, .ref qX), (2, .int v2), (4, .int v4), (7, .int v7), (9, .int v9), (10, .int v10), (11, .int v11)]) hx hb dL_law_1147 hl (by decide) rfl (fun ls hl => ?_)
                      refine lv_iinc (v := v16_1 + 1) (lv' := [(16, .int (v16_1 + 1)), (14, .int 0), (5, .int (v5_1 + 1)), (6, .int v6_92), (13, .int v13_64), (15, .int v15_5), (0, .ref b), (1, .ref qX), (2, .int v2), (4, .int v4), (7, .int v7), (9, .int v9), (10, .int v10), (11, .int v11)]) hx hb dL_law_1149 hl (k := 5) rfl rfl (by decide) rfl (fun ls hl => ?_)
                      refine lv_goto (tgt := 1010) hx hb dL_law_1152 (by decide) ?_
                      exact ag (v16_1 + 1, v15_5, v5_1 + 1, v6_92, v13_64, (0 : Int32), σP_95, σD_107, σN_106) hF _ _ _ hP hD hS (lv_sub hl [0, 5, 6, 7, 8, 9, 2, 3, 10, 11, 12, 13, 4, 1] rfl)
                    · have hF := q_if_t (by first | exact c_110 | exact Classical.not_not.mp c_110) hF
                      refine lv_aload_n hx hb dL_law_1121 rfl (lv_at hl 6 rfl) ?_
                      refine lv_iload hx hb dL_law_1122 (lv_at hl 11 rfl) ?_
                      refine lv_iconst (v := 0) hx hb dL_law_1124 (by decide) ?_
                      obtain ⟨⟨r_111, σN_112, σD_113⟩, h_114, hF⟩ := q_cl_s hF
                      try dsimp only at hF
                      refine gcV_i (As := [.int v10, .int 0]) (rest := []) (ci := 6) (q := (RX6, TX6, 8)) F hK hN hP hD hS hA (m_X6_behind l g H.size qX AX σN_106 AP σP_95 AD σD_107 AC σC v10 (0 : Int32) r_111 σN_112 σD_113 h_114) gL_law_X6_behind kX6_behind rfl rfl rfl rfl ⟨(Nat.le_of_ble_eq_true rfl), (Nat.le_of_ble_eq_true rfl)⟩ [0, 19, 17, 18, 9, 10, 11, 12, 13, 14, 15, 16, 1, 2, 3, 4, 5, 6, 7, 8] [20, 21, 22, 23, 24, 25, 26, 27, 28, 29, 30, 31] rfl rfl rfl (by decide) rfl rfl rfl rfl rfl hl.1 (Nat.le_of_ble_eq_true rfl) dL_law_1125 ⟨(Nat.le_of_ble_eq_true rfl), (Nat.le_of_ble_eq_true rfl)⟩ (fun r_w u_w H locs hw hP hD hS => ?_)
                      have hP : va_P g.1 vwCl (wX6 qX AX ++ wX1 g (AX 0) AC σC ++ wX1 g (AX 1) AD σD_113 ++ wX3 g (AX 3) AP σP_95 ++ wX2 (AX 4) σN_112 ++ wX5 g (AX 5) AW (.ref qH) σW ++ wX4 g (AX 6) AY σY ++ wX0 g (AX 7) AK σK ℓK ++ wH g qH σH) H := hP.sub [12, 24, 25, 26, 27, 28, 29, 30, 31, 16, 17, 18, 19, 20, 21, 22, 23, 14, 15, 13, 0, 1, 2, 3, 4, 5, 6, 7, 8, 9, 10, 11] rfl
                      have hD : va_D Z (wX6 qX AX ++ wX1 g (AX 0) AC σC ++ wX1 g (AX 1) AD σD_113 ++ wX3 g (AX 3) AP σP_95 ++ wX2 (AX 4) σN_112 ++ wX5 g (AX 5) AW (.ref qH) σW ++ wX4 g (AX 6) AY σY ++ wX0 g (AX 7) AK σK ℓK ++ wH g qH σH) := hD.sub [12, 24, 25, 26, 27, 28, 29, 30, 31, 16, 17, 18, 19, 20, 21, 22, 23, 14, 15, 13, 0, 1, 2, 3, 4, 5, 6, 7, 8, 9, 10, 11] (by decide) rfl
                      obtain rfl : r_111 = r_w := hw.symm
                      refine lv_iload hx hb dL_law_1128 (lv_at hl 3 rfl) ?_
                      refine lv_if_eq (tgt := 1137) hx hb dL_law_1130 (by decide) (fun c_116 => ?_) (fun c_116 => ?_)
                      · have hF := q_if_t c_116 hF
                        refine lv_bipush (v := (-6)) hx hb dL_law_1137 (by decide) ?_
                        refine lv_icmp_ne (tgt := 1146) hx hb dL_law_1139 (by decide) (fun c_117 => ?_) (fun c_117 => ?_)
                        · have hF := q_if_f c_117 hF
                          refine lv_iconst (v := 0) hx hb dL_law_1146 (by decide) ?_
                          refine lv_istore (lv' := [(14, .int 0), (5, .int (v5_1 + 1)), (6, .int v6_92), (13, .int v13_64), (15, .int v15_5), (16, .int v16_1), (0, .ref b), (1, .ref qX), (2, .int v2), (4, .int v4), (7, .int v7), (9, .int v9), (10, .int v10), (11, .int v11)]) hx hb dL_law_1147 hl (by decide) rfl (fun ls hl => ?_)
                          refine lv_iinc (v := v16_1 + 1) (lv' := [(16, .int (v16_1 + 1)), (14, .int 0), (5, .int (v5_1 + 1)), (6, .int v6_92), (13, .int v13_64), (15, .int v15_5), (0, .ref b), (1, .ref qX), (2, .int v2), (4, .int v4), (7, .int v7), (9, .int v9), (10, .int v10), (11, .int v11)]) hx hb dL_law_1149 hl (k := 5) rfl rfl (by decide) rfl (fun ls hl => ?_)
                          refine lv_goto (tgt := 1010) hx hb dL_law_1152 (by decide) ?_
                          exact ag (v16_1 + 1, v15_5, v5_1 + 1, v6_92, v13_64, (0 : Int32), σP_95, σD_113, σN_112) hF _ _ _ hP hD hS (lv_sub hl [0, 5, 6, 7, 8, 9, 2, 3, 10, 11, 12, 13, 4, 1] rfl)
                        · have hF := q_if_t (by first | exact c_117 | exact Classical.not_not.mp c_117) hF
                          refine lv_iconst (v := 1) hx hb dL_law_1142 (by decide) ?_
                          refine lv_goto (tgt := 1147) hx hb dL_law_1143 (by decide) ?_
                          refine lv_istore (lv' := [(14, .int 1), (5, .int (v5_1 + 1)), (6, .int v6_92), (13, .int v13_64), (15, .int v15_5), (16, .int v16_1), (0, .ref b), (1, .ref qX), (2, .int v2), (4, .int v4), (7, .int v7), (9, .int v9), (10, .int v10), (11, .int v11)]) hx hb dL_law_1147 hl (by decide) rfl (fun ls hl => ?_)
                          refine lv_iinc (v := v16_1 + 1) (lv' := [(16, .int (v16_1 + 1)), (14, .int 1), (5, .int (v5_1 + 1)), (6, .int v6_92), (13, .int v13_64), (15, .int v15_5), (0, .ref b), (1, .ref qX), (2, .int v2), (4, .int v4), (7, .int v7), (9, .int v9), (10, .int v10), (11, .int v11)]) hx hb dL_law_1149 hl (k := 5) rfl rfl (by decide) rfl (fun ls hl => ?_)
                          refine lv_goto (tgt := 1010) hx hb dL_law_1152 (by decide) ?_
                          exact ag (v16_1 + 1, v15_5, v5_1 + 1, v6_92, v13_64, (1 : Int32), σP_95, σD_113, σN_112) hF _ _ _ hP hD hS (lv_sub hl [0, 5, 6, 7, 8, 9, 2, 3, 10, 11, 12, 13, 4, 1] rfl)
                      · have hF := q_if_f c_116 hF
                        refine lv_iconst (v := 3) hx hb dL_law_1133 (by decide) ?_
                        refine lv_goto (tgt := 1139) hx hb dL_law_1134 (by decide) ?_
                        refine lv_icmp_ne (tgt := 1146) hx hb dL_law_1139 (by decide) (fun c_118 => ?_) (fun c_118 => ?_)
                        · have hF := q_if_f c_118 hF
                          refine lv_iconst (v := 0) hx hb dL_law_1146 (by decide) ?_
                          refine lv_istore (lv' := [(14, .int 0), (5, .int (v5_1 + 1)), (6, .int v6_92), (13, .int v13_64), (15, .int v15_5), (16, .int v16_1), (0, .ref b), (1, .ref qX), (2, .int v2), (4, .int v4), (7, .int v7), (9, .int v9), (10, .int v10), (11, .int v11)]) hx hb dL_law_1147 hl (by decide) rfl (fun ls hl => ?_)
                          refine lv_iinc (v := v16_1 + 1) (lv' := [(16, .int (v16_1 + 1)), (14, .int 0), (5, .int (v5_1 + 1)), (6, .int v6_92), (13, .int v13_64), (15, .int v15_5), (0, .ref b), (1, .ref qX), (2, .int v2), (4, .int v4), (7, .int v7), (9, .int v9), (10, .int v10), (11, .int v11)]) hx hb dL_law_1149 hl (k := 5) rfl rfl (by decide) rfl (fun ls hl => ?_)
                          refine lv_goto (tgt := 1010) hx hb dL_law_1152 (by decide) ?_
                          exact ag (v16_1 + 1, v15_5, v5_1 + 1, v6_92, v13_64, (0 : Int32), σP_95, σD_113, σN_112) hF _ _ _ hP hD hS (lv_sub hl [0, 5, 6, 7, 8, 9, 2, 3, 10, 11, 12, 13, 4, 1] rfl)
                        · have hF := q_if_t (by first | exact c_118 | exact Classical.not_not.mp c_118) hF
                          refine lv_iconst (v := 1) hx hb dL_law_1142 (by decide) ?_
                          refine lv_goto (tgt := 1147) hx hb dL_law_1143 (by decide) ?_
                          refine lv_istore (lv' := [(14, .int 1), (5, .int (v5_1 + 1)), (6, .int v6_92), (13, .int v13_64), (15, .int v15_5), (16, .int v16_1), (0, .ref b), (1, .ref qX), (2, .int v2), (4, .int v4), (7, .int v7), (9, .int v9), (10, .int v10), (11, .int v11)]) hx hb dL_law_1147 hl (by decide) rfl (fun ls hl => ?_)
                          refine lv_iinc (v := v16_1 + 1) (lv' := [(16, .int (v16_1 + 1)), (14, .int 1), (5, .int (v5_1 + 1)), (6, .int v6_92), (13, .int v13_64), (15, .int v15_5), (0, .ref b), (1, .ref qX), (2, .int v2), (4, .int v4), (7, .int v7), (9, .int v9), (10, .int v10), (11, .int v11)]) hx hb dL_law_1149 hl (k := 5) rfl rfl (by decide) rfl (fun ls hl => ?_)
                          refine lv_goto (tgt := 1010) hx hb dL_law_1152 (by decide) ?_
                          exact ag (v16_1 + 1, v15_5, v5_1 + 1, v6_92, v13_64, (1 : Int32), σP_95, σD_113, σN_112) hF _ _ _ hP hD hS (lv_sub hl [0, 5, 6, 7, 8, 9, 2, 3, 10, 11, 12, 13, 4, 1] rfl)
            · have hF := q_if_t (by first | exact c_63 | exact Classical.not_not.mp c_63) hF
              refine lv_iconst (v := 0) hx hb dL_law_1061 (by decide) ?_
              refine lv_goto (tgt := 1066) hx hb dL_law_1062 (by decide) ?_
              refine lv_iadd hx hb dL_law_1066 ?_
              obtain ⟨v13_119, e_120, hF⟩ := q_bd_s hF
              refine gtop e_120 ?_
              refine lv_istore (lv' := [(13, .int v13_119), (15, .int v15_5), (16, .int v16_1), (0, .ref b), (1, .ref qX), (2, .int v2), (4, .int v4), (5, .int v5_1), (6, .int v6_1), (7, .int v7), (9, .int v9), (10, .int v10), (11, .int v11), (14, .int v14_1)]) hx hb dL_law_1067 hl (by decide) rfl (fun ls hl => ?_)
              refine lv_iload hx hb dL_law_1069 (lv_at hl 8 rfl) ?_
              refine lv_iconst (v := 5) hx hb dL_law_1071 (by decide) ?_
              refine lv_icmp_le (tgt := 1082) hx hb dL_law_1072 (by decide) (fun c_121 => ?_) (fun c_121 => ?_)
              · have hF := q_if_t c_121 hF
                refine lv_iconst (v := 0) hx hb dL_law_1082 (by decide) ?_
                refine lv_istore (lv' := [(6, .int 0), (13, .int v13_119), (15, .int v15_5), (16, .int v16_1), (0, .ref b), (1, .ref qX), (2, .int v2), (4, .int v4), (5, .int v5_1), (7, .int v7), (9, .int v9), (10, .int v10), (11, .int v11), (14, .int v14_1)]) hx hb dL_law_1083 hl (by decide) rfl (fun ls hl => ?_)
                refine lv_iinc (v := v5_1 + 1) (lv' := [(5, .int (v5_1 + 1)), (6, .int 0), (13, .int v13_119), (15, .int v15_5), (16, .int v16_1), (0, .ref b), (1, .ref qX), (2, .int v2), (4, .int v4), (7, .int v7), (9, .int v9), (10, .int v10), (11, .int v11), (14, .int v14_1)]) hx hb dL_law_1085 hl (k := 8) rfl rfl (by decide) rfl (fun ls hl => ?_)
                refine lv_aload_n hx hb dL_law_1088 rfl (lv_at hl 6 rfl) ?_
                refine lv_bipush (v := 42) hx hb dL_law_1089 (by decide) ?_
                obtain ⟨⟨r_122, σP_123⟩, h_124, hF⟩ := q_cl_s hF
                try dsimp only at hF
                refine gcV_i (As := [.int 42]) (rest := []) (ci := 6) (q := (RX6, TX6, 8)) F hK hN hP hD hS hA (m_X6_say l g H.size qX AX AP σP_1 (42 : Int32) r_122 σP_123 h_124) gL_law_X6_say kX6_say rfl rfl rfl rfl ⟨(Nat.le_of_ble_eq_true rfl), (Nat.le_of_ble_eq_true rfl)⟩ [0, 17, 18] [1, 2, 3, 4, 5, 6, 7, 8, 9, 10, 11, 12, 13, 14, 15, 16, 19, 20, 21, 22, 23, 24, 25, 26, 27, 28, 29, 30, 31] rfl rfl rfl (by decide) rfl rfl rfl rfl rfl hl.1 (Nat.le_of_ble_eq_true rfl) dL_law_1091 ⟨(Nat.le_of_ble_eq_true rfl), (Nat.le_of_ble_eq_true rfl)⟩ (fun r_w u_w H locs hw hP hD hS => ?_)
                have hP : va_P g.1 vwCl (wX6 qX AX ++ wX1 g (AX 0) AC σC ++ wX1 g (AX 1) AD σD_1 ++ wX3 g (AX 3) AP σP_123 ++ wX2 (AX 4) σN_1 ++ wX5 g (AX 5) AW (.ref qH) σW ++ wX4 g (AX 6) AY σY ++ wX0 g (AX 7) AK σK ℓK ++ wH g qH σH) H := hP.sub [29, 0, 1, 2, 3, 4, 5, 6, 7, 8, 9, 10, 11, 12, 13, 14, 15, 30, 31, 16, 17, 18, 19, 20, 21, 22, 23, 24, 25, 26, 27, 28] rfl
                have hD : va_D Z (wX6 qX AX ++ wX1 g (AX 0) AC σC ++ wX1 g (AX 1) AD σD_1 ++ wX3 g (AX 3) AP σP_123 ++ wX2 (AX 4) σN_1 ++ wX5 g (AX 5) AW (.ref qH) σW ++ wX4 g (AX 6) AY σY ++ wX0 g (AX 7) AK σK ℓK ++ wH g qH σH) := hD.sub [29, 0, 1, 2, 3, 4, 5, 6, 7, 8, 9, 10, 11, 12, 13, 14, 15, 30, 31, 16, 17, 18, 19, 20, 21, 22, 23, 24, 25, 26, 27, 28] (by decide) rfl
                obtain rfl : r_122 = r_w := hw.symm
                refine lv_iload hx hb dL_law_1094 (lv_at hl 0 rfl) ?_
                refine lv_icmp_ne (tgt := 1146) hx hb dL_law_1096 (by decide) (fun c_126 => ?_) (fun c_126 => ?_)
                · have hF := q_if_f c_126 hF
                  refine lv_iconst (v := 0) hx hb dL_law_1146 (by decide) ?_
                  refine lv_istore (lv' := [(14, .int 0), (5, .int (v5_1 + 1)), (6, .int 0), (13, .int v13_119), (15, .int v15_5), (16, .int v16_1), (0, .ref b), (1, .ref qX), (2, .int v2), (4, .int v4), (7, .int v7), (9, .int v9), (10, .int v10), (11, .int v11)]) hx hb dL_law_1147 hl (by decide) rfl (fun ls hl => ?_)
                  refine lv_iinc (v := v16_1 + 1) (lv' := [(16, .int (v16_1 + 1)), (14, .int 0), (5, .int (v5_1 + 1)), (6, .int 0), (13, .int v13_119), (15, .int v15_5), (0, .ref b), (1, .ref qX), (2, .int v2), (4, .int v4), (7, .int v7), (9, .int v9), (10, .int v10), (11, .int v11)]) hx hb dL_law_1149 hl (k := 5) rfl rfl (by decide) rfl (fun ls hl => ?_)
                  refine lv_goto (tgt := 1010) hx hb dL_law_1152 (by decide) ?_
                  exact ag (v16_1 + 1, v15_5, v5_1 + 1, (0 : Int32), v13_119, (0 : Int32), σP_123, σD_1, σN_1) hF _ _ _ hP hD hS (lv_sub hl [0, 5, 6, 7, 8, 9, 2, 3, 10, 11, 12, 13, 4, 1] rfl)
                · have hF := q_if_t (by first | exact c_126 | exact Classical.not_not.mp c_126) hF
                  refine lv_aload_n hx hb dL_law_1099 rfl (lv_at hl 6 rfl) ?_
                  refine lv_iconst (v := 1) hx hb dL_law_1100 (by decide) ?_
                  obtain ⟨⟨r_127, σN_128, σD_129⟩, h_130, hF⟩ := q_cl_s hF
                  try dsimp only at hF
                  refine gcV_i (As := [.int 1]) (rest := []) (ci := 6) (q := (RX6, TX6, 8)) F hK hN hP hD hS hA (m_X6_pan l g H.size qX AX σN_1 AP σP_123 AD σD_1 AC σC (1 : Int32) r_127 σN_128 σD_129 h_130) gL_law_X6_pan kX6_pan rfl rfl rfl rfl ⟨(Nat.le_of_ble_eq_true rfl), (Nat.le_of_ble_eq_true rfl)⟩ [0, 19, 17, 18, 9, 10, 11, 12, 13, 14, 15, 16, 1, 2, 3, 4, 5, 6, 7, 8] [20, 21, 22, 23, 24, 25, 26, 27, 28, 29, 30, 31] rfl rfl rfl (by decide) rfl rfl rfl rfl rfl hl.1 (Nat.le_of_ble_eq_true rfl) dL_law_1101 ⟨(Nat.le_of_ble_eq_true rfl), (Nat.le_of_ble_eq_true rfl)⟩ (fun r_w u_w H locs hw hP hD hS => ?_)
                  have hP : va_P g.1 vwCl (wX6 qX AX ++ wX1 g (AX 0) AC σC ++ wX1 g (AX 1) AD σD_129 ++ wX3 g (AX 3) AP σP_123 ++ wX2 (AX 4) σN_128 ++ wX5 g (AX 5) AW (.ref qH) σW ++ wX4 g (AX 6) AY σY ++ wX0 g (AX 7) AK σK ℓK ++ wH g qH σH) H := hP.sub [12, 24, 25, 26, 27, 28, 29, 30, 31, 16, 17, 18, 19, 20, 21, 22, 23, 14, 15, 13, 0, 1, 2, 3, 4, 5, 6, 7, 8, 9, 10, 11] rfl
                  have hD : va_D Z (wX6 qX AX ++ wX1 g (AX 0) AC σC ++ wX1 g (AX 1) AD σD_129 ++ wX3 g (AX 3) AP σP_123 ++ wX2 (AX 4) σN_128 ++ wX5 g (AX 5) AW (.ref qH) σW ++ wX4 g (AX 6) AY σY ++ wX0 g (AX 7) AK σK ℓK ++ wH g qH σH) := hD.sub [12, 24, 25, 26, 27, 28, 29, 30, 31, 16, 17, 18, 19, 20, 21, 22, 23, 14, 15, 13, 0, 1, 2, 3, 4, 5, 6, 7, 8, 9, 10, 11] (by decide) rfl
                  obtain rfl : r_127 = r_w := hw.symm
                  refine lv_iload hx hb dL_law_1104 (lv_at hl 1 rfl) ?_
                  refine lv_icmp_ne (tgt := 1146) hx hb dL_law_1106 (by decide) (fun c_132 => ?_) (fun c_132 => ?_)
                  · have hF := q_if_f c_132 hF
                    refine lv_iconst (v := 0) hx hb dL_law_1146 (by decide) ?_
                    refine lv_istore (lv' := [(14, .int 0), (5, .int (v5_1 + 1)), (6, .int 0), (13, .int v13_119), (15, .int v15_5), (16, .int v16_1), (0, .ref b), (1, .ref qX), (2, .int v2), (4, .int v4), (7, .int v7), (9, .int v9), (10, .int v10), (11, .int v11)]) hx hb dL_law_1147 hl (by decide) rfl (fun ls hl => ?_)
                    refine lv_iinc (v := v16_1 + 1) (lv' := [(16, .int (v16_1 + 1)), (14, .int 0), (5, .int (v5_1 + 1)), (6, .int 0), (13, .int v13_119), (15, .int v15_5), (0, .ref b), (1, .ref qX), (2, .int v2), (4, .int v4), (7, .int v7), (9, .int v9), (10, .int v10), (11, .int v11)]) hx hb dL_law_1149 hl (k := 5) rfl rfl (by decide) rfl (fun ls hl => ?_)
                    refine lv_goto (tgt := 1010) hx hb dL_law_1152 (by decide) ?_
                    exact ag (v16_1 + 1, v15_5, v5_1 + 1, (0 : Int32), v13_119, (0 : Int32), σP_123, σD_129, σN_128) hF _ _ _ hP hD hS (lv_sub hl [0, 5, 6, 7, 8, 9, 2, 3, 10, 11, 12, 13, 4, 1] rfl)
                  · have hF := q_if_t (by first | exact c_132 | exact Classical.not_not.mp c_132) hF
                    refine lv_aload_n hx hb dL_law_1109 rfl (lv_at hl 6 rfl) ?_
                    refine lv_iload hx hb dL_law_1110 (lv_at hl 11 rfl) ?_
                    refine lv_iconst (v := 1) hx hb dL_law_1112 (by decide) ?_
                    obtain ⟨⟨r_133, σN_134, σD_135⟩, h_136, hF⟩ := q_cl_s hF
                    try dsimp only at hF
                    refine gcV_i (As := [.int v10, .int 1]) (rest := []) (ci := 6) (q := (RX6, TX6, 8)) F hK hN hP hD hS hA (m_X6_behind l g H.size qX AX σN_128 AP σP_123 AD σD_129 AC σC v10 (1 : Int32) r_133 σN_134 σD_135 h_136) gL_law_X6_behind kX6_behind rfl rfl rfl rfl ⟨(Nat.le_of_ble_eq_true rfl), (Nat.le_of_ble_eq_true rfl)⟩ [0, 19, 17, 18, 9, 10, 11, 12, 13, 14, 15, 16, 1, 2, 3, 4, 5, 6, 7, 8] [20, 21, 22, 23, 24, 25, 26, 27, 28, 29, 30, 31] rfl rfl rfl (by decide) rfl rfl rfl rfl rfl hl.1 (Nat.le_of_ble_eq_true rfl) dL_law_1113 ⟨(Nat.le_of_ble_eq_true rfl), (Nat.le_of_ble_eq_true rfl)⟩ (fun r_w u_w H locs hw hP hD hS => ?_)
                    have hP : va_P g.1 vwCl (wX6 qX AX ++ wX1 g (AX 0) AC σC ++ wX1 g (AX 1) AD σD_135 ++ wX3 g (AX 3) AP σP_123 ++ wX2 (AX 4) σN_134 ++ wX5 g (AX 5) AW (.ref qH) σW ++ wX4 g (AX 6) AY σY ++ wX0 g (AX 7) AK σK ℓK ++ wH g qH σH) H := hP.sub [12, 24, 25, 26, 27, 28, 29, 30, 31, 16, 17, 18, 19, 20, 21, 22, 23, 14, 15, 13, 0, 1, 2, 3, 4, 5, 6, 7, 8, 9, 10, 11] rfl
                    have hD : va_D Z (wX6 qX AX ++ wX1 g (AX 0) AC σC ++ wX1 g (AX 1) AD σD_135 ++ wX3 g (AX 3) AP σP_123 ++ wX2 (AX 4) σN_134 ++ wX5 g (AX 5) AW (.ref qH) σW ++ wX4 g (AX 6) AY σY ++ wX0 g (AX 7) AK σK ℓK ++ wH g qH σH) := hD.sub [12, 24, 25, 26, 27, 28, 29, 30, 31, 16, 17, 18, 19, 20, 21, 22, 23, 14, 15, 13, 0, 1, 2, 3, 4, 5, 6, 7, 8, 9, 10, 11] (by decide) rfl
                    obtain rfl : r_133 = r_w := hw.symm
                    refine lv_iload hx hb dL_law_1116 (lv_at hl 2 rfl) ?_
                    refine lv_icmp_ne (tgt := 1146) hx hb dL_law_1118 (by decide) (fun c_138 => ?_) (fun c_138 => ?_)
                    · have hF := q_if_f c_138 hF
                      refine lv_iconst (v := 0) hx hb dL_law_1146 (by decide) ?_
                      refine lv_istore (lv' := [(14, .int 0), (5, .int (v5_1 + 1)), (6, .int 0), (13, .int v13_119), (15, .int v15_5), (16, .int v16_1), (0, .ref b), (1, .ref qX), (2, .int v2), (4, .int v4), (7, .int v7), (9, .int v9), (10, .int v10), (11, .int v11)]) hx hb dL_law_1147 hl (by decide) rfl (fun ls hl => ?_)
                      refine lv_iinc (v := v16_1 + 1) (lv' := [(16, .int (v16_1 + 1)), (14, .int 0), (5, .int (v5_1 + 1)), (6, .int 0), (13, .int v13_119), (15, .int v15_5), (0, .ref b), (1, .ref qX), (2, .int v2), (4, .int v4), (7, .int v7), (9, .int v9), (10, .int v10), (11, .int v11)]) hx hb dL_law_1149 hl (k := 5) rfl rfl (by decide) rfl (fun ls hl => ?_)
                      refine lv_goto (tgt := 1010) hx hb dL_law_1152 (by decide) ?_
                      exact ag (v16_1 + 1, v15_5, v5_1 + 1, (0 : Int32), v13_119, (0 : Int32), σP_123, σD_135, σN_134) hF _ _ _ hP hD hS (lv_sub hl [0, 5, 6, 7, 8, 9, 2, 3, 10, 11, 12, 13, 4, 1] rfl)
                    · have hF := q_if_t (by first | exact c_138 | exact Classical.not_not.mp c_138) hF
                      refine lv_aload_n hx hb dL_law_1121 rfl (lv_at hl 6 rfl) ?_
                      refine lv_iload hx hb dL_law_1122 (lv_at hl 11 rfl) ?_
                      refine lv_iconst (v := 0) hx hb dL_law_1124 (by decide) ?_
                      obtain ⟨⟨r_139, σN_140, σD_141⟩, h_142, hF⟩ := q_cl_s hF
                      try dsimp only at hF
                      refine gcV_i (As := [.int v10, .int 0]) (rest := []) (ci := 6) (q := (RX6, TX6, 8)) F hK hN hP hD hS hA (m_X6_behind l g H.size qX AX σN_134 AP σP_123 AD σD_135 AC σC v10 (0 : Int32) r_139 σN_140 σD_141 h_142) gL_law_X6_behind kX6_behind rfl rfl rfl rfl ⟨(Nat.le_of_ble_eq_true rfl), (Nat.le_of_ble_eq_true rfl)⟩ [0, 19, 17, 18, 9, 10, 11, 12, 13, 14, 15, 16, 1, 2, 3, 4, 5, 6, 7, 8] [20, 21, 22, 23, 24, 25, 26, 27, 28, 29, 30, 31] rfl rfl rfl (by decide) rfl rfl rfl rfl rfl hl.1 (Nat.le_of_ble_eq_true rfl) dL_law_1125 ⟨(Nat.le_of_ble_eq_true rfl), (Nat.le_of_ble_eq_true rfl)⟩ (fun r_w u_w H locs hw hP hD hS => ?_)
                      have hP : va_P g.1 vwCl (wX6 qX AX ++ wX1 g (AX 0) AC σC ++ wX1 g (AX 1) AD σD_141 ++ wX3 g (AX 3) AP σP_123 ++ wX2 (AX 4) σN_140 ++ wX5 g (AX 5) AW (.ref qH) σW ++ wX4 g (AX 6) AY σY ++ wX0 g (AX 7) AK σK ℓK ++ wH g qH σH) H := hP.sub [12, 24, 25, 26, 27, 28, 29, 30, 31, 16, 17, 18, 19, 20, 21, 22, 23, 14, 15, 13, 0, 1, 2, 3, 4, 5, 6, 7, 8, 9, 10, 11] rfl
                      have hD : va_D Z (wX6 qX AX ++ wX1 g (AX 0) AC σC ++ wX1 g (AX 1) AD σD_141 ++ wX3 g (AX 3) AP σP_123 ++ wX2 (AX 4) σN_140 ++ wX5 g (AX 5) AW (.ref qH) σW ++ wX4 g (AX 6) AY σY ++ wX0 g (AX 7) AK σK ℓK ++ wH g qH σH) := hD.sub [12, 24, 25, 26, 27, 28, 29, 30, 31, 16, 17, 18, 19, 20, 21, 22, 23, 14, 15, 13, 0, 1, 2, 3, 4, 5, 6, 7, 8, 9, 10, 11] (by decide) rfl
                      obtain rfl : r_139 = r_w := hw.symm
                      refine lv_iload hx hb dL_law_1128 (lv_at hl 3 rfl) ?_
                      refine lv_if_eq (tgt := 1137) hx hb dL_law_1130 (by decide) (fun c_144 => ?_) (fun c_144 => ?_)
                      · have hF := q_if_t c_144 hF
                        refine lv_bipush (v := (-6)) hx hb dL_law_1137 (by decide) ?_
                        refine lv_icmp_ne (tgt := 1146) hx hb dL_law_1139 (by decide) (fun c_145 => ?_) (fun c_145 => ?_)
                        · have hF := q_if_f c_145 hF
                          refine lv_iconst (v := 0) hx hb dL_law_1146 (by decide) ?_
                          refine lv_istore (lv' := [(14, .int 0), (5, .int (v5_1 + 1)), (6, .int 0), (13, .int v13_119), (15, .int v15_5), (16, .int v16_1), (0, .ref b), (1, .ref qX), (2, .int v2), (4, .int v4), (7, .int v7), (9, .int v9), (10, .int v10), (11, .int v11)]) hx hb dL_law_1147 hl (by decide) rfl (fun ls hl => ?_)
                          refine lv_iinc (v := v16_1 + 1) (lv' := [(16, .int (v16_1 + 1)), (14, .int 0), (5, .int (v5_1 + 1)), (6, .int 0), (13, .int v13_119), (15, .int v15_5), (0, .ref b), (1, .ref qX), (2, .int v2), (4, .int v4), (7, .int v7), (9, .int v9), (10, .int v10), (11, .int v11)]) hx hb dL_law_1149 hl (k := 5) rfl rfl (by decide) rfl (fun ls hl => ?_)
                          refine lv_goto (tgt := 1010) hx hb dL_law_1152 (by decide) ?_
                          exact ag (v16_1 + 1, v15_5, v5_1 + 1, (0 : Int32), v13_119, (0 : Int32), σP_123, σD_141, σN_140) hF _ _ _ hP hD hS (lv_sub hl [0, 5, 6, 7, 8, 9, 2, 3, 10, 11, 12, 13, 4, 1] rfl)
                        · have hF := q_if_t (by first | exact c_145 | exact Classical.not_not.mp c_145) hF
                          refine lv_iconst (v := 1) hx hb dL_law_1142 (by decide) ?_
                          refine lv_goto (tgt := 1147) hx hb dL_law_1143 (by decide) ?_
                          refine lv_istore (lv' := [(14, .int 1), (5, .int (v5_1 + 1)), (6, .int 0), (13, .int v13_119), (15, .int v15_5), (16, .int v16_1), (0, .ref b), (1, .ref qX), (2, .int v2), (4, .int v4), (7, .int v7), (9, .int v9), (10, .int v10), (11, .int v11)]) hx hb dL_law_1147 hl (by decide) rfl (fun ls hl => ?_)
                          refine lv_iinc (v := v16_1 + 1) (lv' := [(16, .int (v16_1 + 1)), (14, .int 1), (5, .int (v5_1 + 1)), (6, .int 0), (13, .int v13_119), (15, .int v15_5), (0, .ref b), (1, .ref qX), (2, .int v2), (4, .int v4), (7, .int v7), (9, .int v9), (10, .int v10), (11, .int v11)]) hx hb dL_law_1149 hl (k := 5) rfl rfl (by decide) rfl (fun ls hl => ?_)
                          refine lv_goto (tgt := 1010) hx hb dL_law_1152 (by decide) ?_
                          exact ag (v16_1 + 1, v15_5, v5_1 + 1, (0 : Int32), v13_119, (1 : Int32), σP_123, σD_141, σN_140) hF _ _ _ hP hD hS (lv_sub hl [0, 5, 6, 7, 8, 9, 2, 3, 10, 11, 12, 13, 4, 1] rfl)
                      · have hF := q_if_f c_144 hF
                        refine lv_iconst (v := 3) hx hb dL_law_1133 (by decide) ?_
                        refine lv_goto (tgt := 1139) hx hb dL_law_1134 (by decide) ?_
                        refine lv_icmp_ne (tgt := 1146) hx hb dL_law_1139 (by decide) (fun c_146 => ?_) (fun c_146 => ?_)
                        · have hF := q_if_f c_146 hF
                          refine lv_iconst (v := 0) hx hb dL_law_1146 (by decide) ?_
                          refine lv_istore (lv' := [(14, .int 0), (5, .int (v5_1 + 1)), (6, .int 0), (13, .int v13_119), (15, .int v15_5), (16, .int v16_1), (0, .ref b), (1, .ref qX), (2, .int v2), (4, .int v4), (7, .int v7), (9, .int v9), (10, .int v10), (11, .int v11)]) hx hb dL_law_1147 hl (by decide) rfl (fun ls hl => ?_)
                          refine lv_iinc (v := v16_1 + 1) (lv' := [(16, .int (v16_1 + 1)), (14, .int 0), (5, .int (v5_1 + 1)), (6, .int 0), (13, .int v13_119), (15, .int v15_5), (0, .ref b), (1, .ref qX), (2, .int v2), (4, .int v4), (7, .int v7), (9, .int v9), (10, .int v10), (11, .int v11)]) hx hb dL_law_1149 hl (k := 5) rfl rfl (by decide) rfl (fun ls hl => ?_)
                          refine lv_goto (tgt := 1010) hx hb dL_law_1152 (by decide) ?_
                          exact ag (v16_1 + 1, v15_5, v5_1 + 1, (0 : Int32), v13_119, (0 : Int32), σP_123, σD_141, σN_140) hF _ _ _ hP hD hS (lv_sub hl [0, 5, 6, 7, 8, 9, 2, 3, 10, 11, 12, 13, 4, 1] rfl)
                        · have hF := q_if_t (by first | exact c_146 | exact Classical.not_not.mp c_146) hF
                          refine lv_iconst (v := 1) hx hb dL_law_1142 (by decide) ?_
                          refine lv_goto (tgt := 1147) hx hb dL_law_1143 (by decide) ?_
                          refine lv_istore (lv' := [(14, .int 1), (5, .int (v5_1 + 1)), (6, .int 0), (13, .int v13_119), (15, .int v15_5), (16, .int v16_1), (0, .ref b), (1, .ref qX), (2, .int v2), (4, .int v4), (7, .int v7), (9, .int v9), (10, .int v10), (11, .int v11)]) hx hb dL_law_1147 hl (by decide) rfl (fun ls hl => ?_)
                          refine lv_iinc (v := v16_1 + 1) (lv' := [(16, .int (v16_1 + 1)), (14, .int 1), (5, .int (v5_1 + 1)), (6, .int 0), (13, .int v13_119), (15, .int v15_5), (0, .ref b), (1, .ref qX), (2, .int v2), (4, .int v4), (7, .int v7), (9, .int v9), (10, .int v10), (11, .int v11)]) hx hb dL_law_1149 hl (k := 5) rfl rfl (by decide) rfl (fun ls hl => ?_)
                          refine lv_goto (tgt := 1010) hx hb dL_law_1152 (by decide) ?_
                          exact ag (v16_1 + 1, v15_5, v5_1 + 1, (0 : Int32), v13_119, (1 : Int32), σP_123, σD_141, σN_140) hF _ _ _ hP hD hS (lv_sub hl [0, 5, 6, 7, 8, 9, 2, 3, 10, 11, 12, 13, 4, 1] rfl)
              · have hF := q_if_f c_121 hF
                refine lv_iload hx hb dL_law_1075 (lv_at hl 8 rfl) ?_
                refine lv_iconst (v := 5) hx hb dL_law_1077 (by decide) ?_
                refine lv_isub hx hb dL_law_1078 ?_
                refine lv_goto (tgt := 1083) hx hb dL_law_1079 (by decide) ?_
                obtain ⟨v6_147, e_148, hF⟩ := q_bd_s hF
                refine gtop e_148 ?_
                refine lv_istore (lv' := [(6, .int v6_147), (13, .int v13_119), (15, .int v15_5), (16, .int v16_1), (0, .ref b), (1, .ref qX), (2, .int v2), (4, .int v4), (5, .int v5_1), (7, .int v7), (9, .int v9), (10, .int v10), (11, .int v11), (14, .int v14_1)]) hx hb dL_law_1083 hl (by decide) rfl (fun ls hl => ?_)
                refine lv_iinc (v := v5_1 + 1) (lv' := [(5, .int (v5_1 + 1)), (6, .int v6_147), (13, .int v13_119), (15, .int v15_5), (16, .int v16_1), (0, .ref b), (1, .ref qX), (2, .int v2), (4, .int v4), (7, .int v7), (9, .int v9), (10, .int v10), (11, .int v11), (14, .int v14_1)]) hx hb dL_law_1085 hl (k := 8) rfl rfl (by decide) rfl (fun ls hl => ?_)
                refine lv_aload_n hx hb dL_law_1088 rfl (lv_at hl 6 rfl) ?_
                refine lv_bipush (v := 42) hx hb dL_law_1089 (by decide) ?_
                obtain ⟨⟨r_149, σP_150⟩, h_151, hF⟩ := q_cl_s hF
                try dsimp only at hF
                refine gcV_i (As := [.int 42]) (rest := []) (ci := 6) (q := (RX6, TX6, 8)) F hK hN hP hD hS hA (m_X6_say l g H.size qX AX AP σP_1 (42 : Int32) r_149 σP_150 h_151) gL_law_X6_say kX6_say rfl rfl rfl rfl ⟨(Nat.le_of_ble_eq_true rfl), (Nat.le_of_ble_eq_true rfl)⟩ [0, 17, 18] [1, 2, 3, 4, 5, 6, 7, 8, 9, 10, 11, 12, 13, 14, 15, 16, 19, 20, 21, 22, 23, 24, 25, 26, 27, 28, 29, 30, 31] rfl rfl rfl (by decide) rfl rfl rfl rfl rfl hl.1 (Nat.le_of_ble_eq_true rfl) dL_law_1091 ⟨(Nat.le_of_ble_eq_true rfl), (Nat.le_of_ble_eq_true rfl)⟩ (fun r_w u_w H locs hw hP hD hS => ?_)
                have hP : va_P g.1 vwCl (wX6 qX AX ++ wX1 g (AX 0) AC σC ++ wX1 g (AX 1) AD σD_1 ++ wX3 g (AX 3) AP σP_150 ++ wX2 (AX 4) σN_1 ++ wX5 g (AX 5) AW (.ref qH) σW ++ wX4 g (AX 6) AY σY ++ wX0 g (AX 7) AK σK ℓK ++ wH g qH σH) H := hP.sub [29, 0, 1, 2, 3, 4, 5, 6, 7, 8, 9, 10, 11, 12, 13, 14, 15, 30, 31, 16, 17, 18, 19, 20, 21, 22, 23, 24, 25, 26, 27, 28] rfl
                have hD : va_D Z (wX6 qX AX ++ wX1 g (AX 0) AC σC ++ wX1 g (AX 1) AD σD_1 ++ wX3 g (AX 3) AP σP_150 ++ wX2 (AX 4) σN_1 ++ wX5 g (AX 5) AW (.ref qH) σW ++ wX4 g (AX 6) AY σY ++ wX0 g (AX 7) AK σK ℓK ++ wH g qH σH) := hD.sub [29, 0, 1, 2, 3, 4, 5, 6, 7, 8, 9, 10, 11, 12, 13, 14, 15, 30, 31, 16, 17, 18, 19, 20, 21, 22, 23, 24, 25, 26, 27, 28] (by decide) rfl
                obtain rfl : r_149 = r_w := hw.symm
                refine lv_iload hx hb dL_law_1094 (lv_at hl 0 rfl) ?_
                refine lv_icmp_ne (tgt := 1146) hx hb dL_law_1096 (by decide) (fun c_153 => ?_) (fun c_153 => ?_)
                · have hF := q_if_f c_153 hF
                  refine lv_iconst (v := 0) hx hb dL_law_1146 (by decide) ?_
                  refine lv_istore (lv' := [(14, .int 0), (5, .int (v5_1 + 1)), (6, .int v6_147), (13, .int v13_119), (15, .int v15_5), (16, .int v16_1), (0, .ref b), (1, .ref qX), (2, .int v2), (4, .int v4), (7, .int v7), (9, .int v9), (10, .int v10), (11, .int v11)]) hx hb dL_law_1147 hl (by decide) rfl (fun ls hl => ?_)
                  refine lv_iinc (v := v16_1 + 1) (lv' := [(16, .int (v16_1 + 1)), (14, .int 0), (5, .int (v5_1 + 1)), (6, .int v6_147), (13, .int v13_119), (15, .int v15_5), (0, .ref b), (1, .ref qX), (2, .int v2), (4, .int v4), (7, .int v7), (9, .int v9), (10, .int v10), (11, .int v11)]) hx hb dL_law_1149 hl (k := 5) rfl rfl (by decide) rfl (fun ls hl => ?_)
                  refine lv_goto (tgt := 1010) hx hb dL_law_1152 (by decide) ?_
                  exact ag (v16_1 + 1, v15_5, v5_1 + 1, v6_147, v13_119, (0 : Int32), σP_150, σD_1, σN_1) hF _ _ _ hP hD hS (lv_sub hl [0, 5, 6, 7, 8, 9, 2, 3, 10, 11, 12, 13, 4, 1] rfl)
                · have hF := q_if_t (by first | exact c_153 | exact Classical.not_not.mp c_153) hF
                  refine lv_aload_n hx hb dL_law_1099 rfl (lv_at hl 6 rfl) ?_
                  refine lv_iconst (v := 1) hx hb dL_law_1100 (by decide) ?_
                  obtain ⟨⟨r_154, σN_155, σD_156⟩, h_157, hF⟩ := q_cl_s hF
                  try dsimp only at hF
                  refine gcV_i (As := [.int 1]) (rest := []) (ci := 6) (q := (RX6, TX6, 8)) F hK hN hP hD hS hA (m_X6_pan l g H.size qX AX σN_1 AP σP_150 AD σD_1 AC σC (1 : Int32) r_154 σN_155 σD_156 h_157) gL_law_X6_pan kX6_pan rfl rfl rfl rfl ⟨(Nat.le_of_ble_eq_true rfl), (Nat.le_of_ble_eq_true rfl)⟩ [0, 19, 17, 18, 9, 10, 11, 12, 13, 14, 15, 16, 1, 2, 3, 4, 5, 6, 7, 8] [20, 21, 22, 23, 24, 25, 26, 27, 28, 29, 30, 31] rfl rfl rfl (by decide) rfl rfl rfl rfl rfl hl.1 (Nat.le_of_ble_eq_true rfl) dL_law_1101 ⟨(Nat.le_of_ble_eq_true rfl), (Nat.le_of_ble_eq_true rfl)⟩ (fun r_w u_w H locs hw hP hD hS => ?_)
                  have hP : va_P g.1 vwCl (wX6 qX AX ++ wX1 g (AX 0) AC σC ++ wX1 g (AX 1) AD σD_156 ++ wX3 g (AX 3) AP σP_150 ++ wX2 (AX 4) σN_155 ++ wX5 g (AX 5) AW (.ref qH) σW ++ wX4 g (AX 6) AY σY ++ wX0 g (AX 7) AK σK ℓK ++ wH g qH σH) H := hP.sub [12, 24, 25, 26, 27, 28, 29, 30, 31, 16, 17, 18, 19, 20, 21, 22, 23, 14, 15, 13, 0, 1, 2, 3, 4, 5, 6, 7, 8, 9, 10, 11] rfl
                  have hD : va_D Z (wX6 qX AX ++ wX1 g (AX 0) AC σC ++ wX1 g (AX 1) AD σD_156 ++ wX3 g (AX 3) AP σP_150 ++ wX2 (AX 4) σN_155 ++ wX5 g (AX 5) AW (.ref qH) σW ++ wX4 g (AX 6) AY σY ++ wX0 g (AX 7) AK σK ℓK ++ wH g qH σH) := hD.sub [12, 24, 25, 26, 27, 28, 29, 30, 31, 16, 17, 18, 19, 20, 21, 22, 23, 14, 15, 13, 0, 1, 2, 3, 4, 5, 6, 7, 8, 9, 10, 11] (by decide) rfl
                  obtain rfl : r_154 = r_w := hw.symm
                  refine lv_iload hx hb dL_law_1104 (lv_at hl 1 rfl) ?_
                  refine lv_icmp_ne (tgt := 1146) hx hb dL_law_1106 (by decide) (fun c_159 => ?_) (fun c_159 => ?_)
                  · have hF := q_if_f c_159 hF
                    refine lv_iconst (v := 0) hx hb dL_law_1146 (by decide) ?_
                    refine lv_istore (lv' := [(14, .int 0), (5, .int (v5_1 + 1)), (6, .int v6_147), (13, .int v13_119), (15, .int v15_5), (16, .int v16_1), (0, .ref b), (1, .ref qX), (2, .int v2), (4, .int v4), (7, .int v7), (9, .int v9), (10, .int v10), (11, .int v11)]) hx hb dL_law_1147 hl (by decide) rfl (fun ls hl => ?_)
                    refine lv_iinc (v := v16_1 + 1) (lv' := [(16, .int (v16_1 + 1)), (14, .int 0), (5, .int (v5_1 + 1)), (6, .int v6_147), (13, .int v13_119), (15, .int v15_5), (0, .ref b), (1, .ref qX), (2, .int v2), (4, .int v4), (7, .int v7), (9, .int v9), (10, .int v10), (11, .int v11)]) hx hb dL_law_1149 hl (k := 5) rfl rfl (by decide) rfl (fun ls hl => ?_)
                    refine lv_goto (tgt := 1010) hx hb dL_law_1152 (by decide) ?_
                    exact ag (v16_1 + 1, v15_5, v5_1 + 1, v6_147, v13_119, (0 : Int32), σP_150, σD_156, σN_155) hF _ _ _ hP hD hS (lv_sub hl [0, 5, 6, 7, 8, 9, 2, 3, 10, 11, 12, 13, 4, 1] rfl)
                  · have hF := q_if_t (by first | exact c_159 | exact Classical.not_not.mp c_159) hF
                    refine lv_aload_n hx hb dL_law_1109 rfl (lv_at hl 6 rfl) ?_
                    refine lv_iload hx hb dL_law_1110 (lv_at hl 11 rfl) ?_
                    refine lv_iconst (v := 1) hx hb dL_law_1112 (by decide) ?_
                    obtain ⟨⟨r_160, σN_161, σD_162⟩, h_163, hF⟩ := q_cl_s hF
                    try dsimp only at hF
                    refine gcV_i (As := [.int v10, .int 1]) (rest := []) (ci := 6) (q := (RX6, TX6, 8)) F hK hN hP hD hS hA (m_X6_behind l g H.size qX AX σN_155 AP σP_150 AD σD_156 AC σC v10 (1 : Int32) r_160 σN_161 σD_162 h_163) gL_law_X6_behind kX6_behind rfl rfl rfl rfl ⟨(Nat.le_of_ble_eq_true rfl), (Nat.le_of_ble_eq_true rfl)⟩ [0, 19, 17, 18, 9, 10, 11, 12, 13, 14, 15, 16, 1, 2, 3, 4, 5, 6, 7, 8] [20, 21, 22, 23, 24, 25, 26, 27, 28, 29, 30, 31] rfl rfl rfl (by decide) rfl rfl rfl rfl rfl hl.1 (Nat.le_of_ble_eq_true rfl) dL_law_1113 ⟨(Nat.le_of_ble_eq_true rfl), (Nat.le_of_ble_eq_true rfl)⟩ (fun r_w u_w H locs hw hP hD hS => ?_)
                    have hP : va_P g.1 vwCl (wX6 qX AX ++ wX1 g (AX 0) AC σC ++ wX1 g (AX 1) AD σD_162 ++ wX3 g (AX 3) AP σP_150 ++ wX2 (AX 4) σN_161 ++ wX5 g (AX 5) AW (.ref qH) σW ++ wX4 g (AX 6) AY σY ++ wX0 g (AX 7) AK σK ℓK ++ wH g qH σH) H := hP.sub [12, 24, 25, 26, 27, 28, 29, 30, 31, 16, 17, 18, 19, 20, 21, 22, 23, 14, 15, 13, 0, 1, 2, 3, 4, 5, 6, 7, 8, 9, 10, 11] rfl
                    have hD : va_D Z (wX6 qX AX ++ wX1 g (AX 0) AC σC ++ wX1 g (AX 1) AD σD_162 ++ wX3 g (AX 3) AP σP_150 ++ wX2 (AX 4) σN_161 ++ wX5 g (AX 5) AW (.ref qH) σW ++ wX4 g (AX 6) AY σY ++ wX0 g (AX 7) AK σK ℓK ++ wH g qH σH) := hD.sub [12, 24, 25, 26, 27, 28, 29, 30, 31, 16, 17, 18, 19, 20, 21, 22, 23, 14, 15, 13, 0, 1, 2, 3, 4, 5, 6, 7, 8, 9, 10, 11] (by decide) rfl
                    obtain rfl : r_160 = r_w := hw.symm
                    refine lv_iload hx hb dL_law_1116 (lv_at hl 2 rfl) ?_
                    refine lv_icmp_ne (tgt := 1146) hx hb dL_law_1118 (by decide) (fun c_165 => ?_) (fun c_165 => ?_)
                    · have hF := q_if_f c_165 hF
                      refine lv_iconst (v := 0) hx hb dL_law_1146 (by decide) ?_
                      refine lv_istore (lv' := [(14, .int 0), (5, .int (v5_1 + 1)), (6, .int v6_147), (13, .int v13_119), (15, .int v15_5), (16, .int v16_1), (0, .ref b), (1, .ref qX), (2, .int v2), (4, .int v4), (7, .int v7), (9, .int v9), (10, .int v10), (11, .int v11)]) hx hb dL_law_1147 hl (by decide) rfl (fun ls hl => ?_)
                      refine lv_iinc (v := v16_1 + 1) (lv' := [(16, .int (v16_1 + 1)), (14, .int 0), (5, .int (v5_1 + 1)), (6, .int v6_147), (13, .int v13_119), (15, .int v15_5), (0, .ref b), (1, .ref qX), (2, .int v2), (4, .int v4), (7, .int v7), (9, .int v9), (10, .int v10), (11, .int v11)]) hx hb dL_law_1149 hl (k := 5) rfl rfl (by decide) rfl (fun ls hl => ?_)
                      refine lv_goto (tgt := 1010) hx hb dL_law_1152 (by decide) ?_
                      exact ag (v16_1 + 1, v15_5, v5_1 + 1, v6_147, v13_119, (0 : Int32), σP_150, σD_162, σN_161) hF _ _ _ hP hD hS (lv_sub hl [0, 5, 6, 7, 8, 9, 2, 3, 10, 11, 12, 13, 4, 1] rfl)
                    · have hF := q_if_t (by first | exact c_165 | exact Classical.not_not.mp c_165) hF
                      refine lv_aload_n hx hb dL_law_1121 rfl (lv_at hl 6 rfl) ?_
                      refine lv_iload hx hb dL_law_1122 (lv_at hl 11 rfl) ?_
                      refine lv_iconst (v := 0) hx hb dL_law_1124 (by decide) ?_
                      obtain ⟨⟨r_166, σN_167, σD_168⟩, h_169, hF⟩ := q_cl_s hF
                      try dsimp only at hF
                      refine gcV_i (As := [.int v10, .int 0]) (rest := []) (ci := 6) (q := (RX6, TX6, 8)) F hK hN hP hD hS hA (m_X6_behind l g H.size qX AX σN_161 AP σP_150 AD σD_162 AC σC v10 (0 : Int32) r_166 σN_167 σD_168 h_169) gL_law_X6_behind kX6_behind rfl rfl rfl rfl ⟨(Nat.le_of_ble_eq_true rfl), (Nat.le_of_ble_eq_true rfl)⟩ [0, 19, 17, 18, 9, 10, 11, 12, 13, 14, 15, 16, 1, 2, 3, 4, 5, 6, 7, 8] [20, 21, 22, 23, 24, 25, 26, 27, 28, 29, 30, 31] rfl rfl rfl (by decide) rfl rfl rfl rfl rfl hl.1 (Nat.le_of_ble_eq_true rfl) dL_law_1125 ⟨(Nat.le_of_ble_eq_true rfl), (Nat.le_of_ble_eq_true rfl)⟩ (fun r_w u_w H locs hw hP hD hS => ?_)
                      have hP : va_P g.1 vwCl (wX6 qX AX ++ wX1 g (AX 0) AC σC ++ wX1 g (AX 1) AD σD_168 ++ wX3 g (AX 3) AP σP_150 ++ wX2 (AX 4) σN_167 ++ wX5 g (AX 5) AW (.ref qH) σW ++ wX4 g (AX 6) AY σY ++ wX0 g (AX 7) AK σK ℓK ++ wH g qH σH) H := hP.sub [12, 24, 25, 26, 27, 28, 29, 30, 31, 16, 17, 18, 19, 20, 21, 22, 23, 14, 15, 13, 0, 1, 2, 3, 4, 5, 6, 7, 8, 9, 10, 11] rfl
                      have hD : va_D Z (wX6 qX AX ++ wX1 g (AX 0) AC σC ++ wX1 g (AX 1) AD σD_168 ++ wX3 g (AX 3) AP σP_150 ++ wX2 (AX 4) σN_167 ++ wX5 g (AX 5) AW (.ref qH) σW ++ wX4 g (AX 6) AY σY ++ wX0 g (AX 7) AK σK ℓK ++ wH g qH σH) := hD.sub [12, 24, 25, 26, 27, 28, 29, 30, 31, 16, 17, 18, 19, 20, 21, 22, 23, 14, 15, 13, 0, 1, 2, 3, 4, 5, 6, 7, 8, 9, 10, 11] (by decide) rfl
                      obtain rfl : r_166 = r_w := hw.symm
                      refine lv_iload hx hb dL_law_1128 (lv_at hl 3 rfl) ?_
                      refine lv_if_eq (tgt := 1137) hx hb dL_law_1130 (by decide) (fun c_171 => ?_) (fun c_171 => ?_)
                      · have hF := q_if_t c_171 hF
                        refine lv_bipush (v := (-6)) hx hb dL_law_1137 (by decide) ?_
                        refine lv_icmp_ne (tgt := 1146) hx hb dL_law_1139 (by decide) (fun c_172 => ?_) (fun c_172 => ?_)
                        · have hF := q_if_f c_172 hF
                          refine lv_iconst (v := 0) hx hb dL_law_1146 (by decide) ?_
                          refine lv_istore (lv' := [(14, .int 0), (5, .int (v5_1 + 1)), (6, .int v6_147), (13, .int v13_119), (15, .int v15_5), (16, .int v16_1), (0, .ref b), (1, .ref qX), (2, .int v2), (4, .int v4), (7, .int v7), (9, .int v9), (10, .int v10), (11, .int v11)]) hx hb dL_law_1147 hl (by decide) rfl (fun ls hl => ?_)
                          refine lv_iinc (v := v16_1 + 1) (lv' := [(16, .int (v16_1 + 1)), (14, .int 0), (5, .int (v5_1 + 1)), (6, .int v6_147), (13, .int v13_119), (15, .int v15_5), (0, .ref b), (1, .ref qX), (2, .int v2), (4, .int v4), (7, .int v7), (9, .int v9), (10, .int v10), (11, .int v11)]) hx hb dL_law_1149 hl (k := 5) rfl rfl (by decide) rfl (fun ls hl => ?_)
                          refine lv_goto (tgt := 1010) hx hb dL_law_1152 (by decide) ?_
                          exact ag (v16_1 + 1, v15_5, v5_1 + 1, v6_147, v13_119, (0 : Int32), σP_150, σD_168, σN_167) hF _ _ _ hP hD hS (lv_sub hl [0, 5, 6, 7, 8, 9, 2, 3, 10, 11, 12, 13, 4, 1] rfl)
                        · have hF := q_if_t (by first | exact c_172 | exact Classical.not_not.mp c_172) hF
                          refine lv_iconst (v := 1) hx hb dL_law_1142 (by decide) ?_
                          refine lv_goto (tgt := 1147) hx hb dL_law_1143 (by decide) ?_
                          refine lv_istore (lv' := [(14, .int 1), (5, .int (v5_1 + 1)), (6, .int v6_147), (13, .int v13_119), (15, .int v15_5), (16, .int v16_1), (0, .ref b), (1, .ref qX), (2, .int v2), (4, .int v4), (7, .int v7), (9, .int v9), (10, .int v10), (11, .int v11)]) hx hb dL_law_1147 hl (by decide) rfl (fun ls hl => ?_)
                          refine lv_iinc (v := v16_1 + 1) (lv' := [(16, .int (v16_1 + 1)), (14, .int 1), (5, .int (v5_1 + 1)), (6, .int v6_147), (13, .int v13_119), (15, .int v15_5), (0, .ref b), (1, .ref qX), (2, .int v2), (4, .int v4), (7, .int v7), (9, .int v9), (10, .int v10), (11, .int v11)]) hx hb dL_law_1149 hl (k := 5) rfl rfl (by decide) rfl (fun ls hl => ?_)
                          refine lv_goto (tgt := 1010) hx hb dL_law_1152 (by decide) ?_
                          exact ag (v16_1 + 1, v15_5, v5_1 + 1, v6_147, v13_119, (1 : Int32), σP_150, σD_168, σN_167) hF _ _ _ hP hD hS (lv_sub hl [0, 5, 6, 7, 8, 9, 2, 3, 10, 11, 12, 13, 4, 1] rfl)
                      · have hF := q_if_f c_171 hF
                        refine lv_iconst (v := 3) hx hb dL_law_1133 (by decide) ?_
                        refine lv_goto (tgt := 1139) hx hb dL_law_1134 (by decide) ?_
                        refine lv_icmp_ne (tgt := 1146) hx hb dL_law_1139 (by decide) (fun c_173 => ?_) (fun c_173 => ?_)
                        · have hF := q_if_f c_173 hF
                          refine lv_iconst (v := 0) hx hb dL_law_1146 (by decide) ?_
                          refine lv_istore (lv' := [(14, .int 0), (5, .int (v5_1 + 1)), (6, .int v6_147), (13, .int v13_119), (15, .int v15_5), (16, .int v16_1), (0, .ref b), (1, .ref qX), (2, .int v2), (4, .int v4), (7, .int v7), (9, .int v9), (10, .int v10), (11, .int v11)]) hx hb dL_law_1147 hl (by decide) rfl (fun ls hl => ?_)
                          refine lv_iinc (v := v16_1 + 1) (lv' := [(16, .int (v16_1 + 1)), (14, .int 0), (5, .int (v5_1 + 1)), (6, .int v6_147), (13, .int v13_119), (15, .int v15_5), (0, .ref b), (1, .ref qX), (2, .int v2), (4, .int v4), (7, .int v7), (9, .int v9), (10, .int v10), (11, .int v11)]) hx hb dL_law_1149 hl (k := 5) rfl rfl (by decide) rfl (fun ls hl => ?_)
                          refine lv_goto (tgt := 1010) hx hb dL_law_1152 (by decide) ?_
                          exact ag (v16_1 + 1, v15_5, v5_1 + 1, v6_147, v13_119, (0 : Int32), σP_150, σD_168, σN_167) hF _ _ _ hP hD hS (lv_sub hl [0, 5, 6, 7, 8, 9, 2, 3, 10, 11, 12, 13, 4, 1] rfl)
                        · have hF := q_if_t (by first | exact c_173 | exact Classical.not_not.mp c_173) hF
                          refine lv_iconst (v := 1) hx hb dL_law_1142 (by decide) ?_
                          refine lv_goto (tgt := 1147) hx hb dL_law_1143 (by decide) ?_
                          refine lv_istore (lv' := [(14, .int 1), (5, .int (v5_1 + 1)), (6, .int v6_147), (13, .int v13_119), (15, .int v15_5), (16, .int v16_1), (0, .ref b), (1, .ref qX), (2, .int v2), (4, .int v4), (7, .int v7), (9, .int v9), (10, .int v10), (11, .int v11)]) hx hb dL_law_1147 hl (by decide) rfl (fun ls hl => ?_)
                          refine lv_iinc (v := v16_1 + 1) (lv' := [(16, .int (v16_1 + 1)), (14, .int 1), (5, .int (v5_1 + 1)), (6, .int v6_147), (13, .int v13_119), (15, .int v15_5), (0, .ref b), (1, .ref qX), (2, .int v2), (4, .int v4), (7, .int v7), (9, .int v9), (10, .int v10), (11, .int v11)]) hx hb dL_law_1149 hl (k := 5) rfl rfl (by decide) rfl (fun ls hl => ?_)
                          refine lv_goto (tgt := 1010) hx hb dL_law_1152 (by decide) ?_
                          exact ag (v16_1 + 1, v15_5, v5_1 + 1, v6_147, v13_119, (1 : Int32), σP_150, σD_168, σN_167) hF _ _ _ hP hD hS (lv_sub hl [0, 5, 6, 7, 8, 9, 2, 3, 10, 11, 12, 13, 4, 1] rfl)
        · have hF := q_if_f c_4 hF
          refine lv_iconst (v := 1) hx hb dL_law_1034 (by decide) ?_
          refine lv_goto (tgt := 1039) hx hb dL_law_1035 (by decide) ?_
          refine lv_ior hx hb dL_law_1039 ?_
          obtain ⟨v15_174, e_175, hF⟩ := q_bd_s hF
          refine gtop e_175 ?_
          refine lv_istore (lv' := [(15, .int v15_174), (16, .int v16_1), (0, .ref b), (1, .ref qX), (2, .int v2), (4, .int v4), (5, .int v5_1), (6, .int v6_1), (7, .int v7), (9, .int v9), (10, .int v10), (11, .int v11), (13, .int v13_1), (14, .int v14_1)]) hx hb dL_law_1040 hl (by decide) rfl (fun ls hl => ?_)
          refine lv_iload hx hb dL_law_1042 (lv_at hl 12 rfl) ?_
          refine lv_iload hx hb dL_law_1044 (lv_at hl 7 rfl) ?_
          refine lv_bipush (v := 9) hx hb dL_law_1046 (by decide) ?_
          refine lv_iload hx hb dL_law_1048 (lv_at hl 12 rfl) ?_
          refine lv_imul hx hb dL_law_1050 ?_
          refine lv_icmp_gt (tgt := 1061) hx hb dL_law_1051 (by decide) (fun c_176 => ?_) (fun c_176 => ?_)
          · have hF := q_if_t c_176 hF
            refine lv_iconst (v := 0) hx hb dL_law_1061 (by decide) ?_
            refine lv_goto (tgt := 1066) hx hb dL_law_1062 (by decide) ?_
            refine lv_iadd hx hb dL_law_1066 ?_
            obtain ⟨v13_177, e_178, hF⟩ := q_bd_s hF
            refine gtop e_178 ?_
            refine lv_istore (lv' := [(13, .int v13_177), (15, .int v15_174), (16, .int v16_1), (0, .ref b), (1, .ref qX), (2, .int v2), (4, .int v4), (5, .int v5_1), (6, .int v6_1), (7, .int v7), (9, .int v9), (10, .int v10), (11, .int v11), (14, .int v14_1)]) hx hb dL_law_1067 hl (by decide) rfl (fun ls hl => ?_)
            refine lv_iload hx hb dL_law_1069 (lv_at hl 8 rfl) ?_
            refine lv_iconst (v := 5) hx hb dL_law_1071 (by decide) ?_
            refine lv_icmp_le (tgt := 1082) hx hb dL_law_1072 (by decide) (fun c_179 => ?_) (fun c_179 => ?_)
            · have hF := q_if_t c_179 hF
              refine lv_iconst (v := 0) hx hb dL_law_1082 (by decide) ?_
              refine lv_istore (lv' := [(6, .int 0), (13, .int v13_177), (15, .int v15_174), (16, .int v16_1), (0, .ref b), (1, .ref qX), (2, .int v2), (4, .int v4), (5, .int v5_1), (7, .int v7), (9, .int v9), (10, .int v10), (11, .int v11), (14, .int v14_1)]) hx hb dL_law_1083 hl (by decide) rfl (fun ls hl => ?_)
              refine lv_iinc (v := v5_1 + 1) (lv' := [(5, .int (v5_1 + 1)), (6, .int 0), (13, .int v13_177), (15, .int v15_174), (16, .int v16_1), (0, .ref b), (1, .ref qX), (2, .int v2), (4, .int v4), (7, .int v7), (9, .int v9), (10, .int v10), (11, .int v11), (14, .int v14_1)]) hx hb dL_law_1085 hl (k := 8) rfl rfl (by decide) rfl (fun ls hl => ?_)
              refine lv_aload_n hx hb dL_law_1088 rfl (lv_at hl 6 rfl) ?_
              refine lv_bipush (v := 42) hx hb dL_law_1089 (by decide) ?_
              obtain ⟨⟨r_180, σP_181⟩, h_182, hF⟩ := q_cl_s hF
              try dsimp only at hF
              refine gcV_i (As := [.int 42]) (rest := []) (ci := 6) (q := (RX6, TX6, 8)) F hK hN hP hD hS hA (m_X6_say l g H.size qX AX AP σP_1 (42 : Int32) r_180 σP_181 h_182) gL_law_X6_say kX6_say rfl rfl rfl rfl ⟨(Nat.le_of_ble_eq_true rfl), (Nat.le_of_ble_eq_true rfl)⟩ [0, 17, 18] [1, 2, 3, 4, 5, 6, 7, 8, 9, 10, 11, 12, 13, 14, 15, 16, 19, 20, 21, 22, 23, 24, 25, 26, 27, 28, 29, 30, 31] rfl rfl rfl (by decide) rfl rfl rfl rfl rfl hl.1 (Nat.le_of_ble_eq_true rfl) dL_law_1091 ⟨(Nat.le_of_ble_eq_true rfl), (Nat.le_of_ble_eq_true rfl)⟩ (fun r_w u_w H locs hw hP hD hS => ?_)
              have hP : va_P g.1 vwCl (wX6 qX AX ++ wX1 g (AX 0) AC σC ++ wX1 g (AX 1) AD σD_1 ++ wX3 g (AX 3) AP σP_181 ++ wX2 (AX 4) σN_1 ++ wX5 g (AX 5) AW (.ref qH) σW ++ wX4 g (AX 6) AY σY ++ wX0 g (AX 7) AK σK ℓK ++ wH g qH σH) H := hP.sub [29, 0, 1, 2, 3, 4, 5, 6, 7, 8, 9, 10, 11, 12, 13, 14, 15, 30, 31, 16, 17, 18, 19, 20, 21, 22, 23, 24, 25, 26, 27, 28] rfl
              have hD : va_D Z (wX6 qX AX ++ wX1 g (AX 0) AC σC ++ wX1 g (AX 1) AD σD_1 ++ wX3 g (AX 3) AP σP_181 ++ wX2 (AX 4) σN_1 ++ wX5 g (AX 5) AW (.ref qH) σW ++ wX4 g (AX 6) AY σY ++ wX0 g (AX 7) AK σK ℓK ++ wH g qH σH) := hD.sub [29, 0, 1, 2, 3, 4, 5, 6, 7, 8, 9, 10, 11, 12, 13, 14, 15, 30, 31, 16, 17, 18, 19, 20, 21, 22, 23, 24, 25, 26, 27, 28] (by decide) rfl
              obtain rfl : r_180 = r_w := hw.symm
              refine lv_iload hx hb dL_law_1094 (lv_at hl 0 rfl) ?_
              refine lv_icmp_ne (tgt := 1146) hx hb dL_law_1096 (by decide) (fun c_184 => ?_) (fun c_184 => ?_)
              · have hF := q_if_f c_184 hF
                refine lv_iconst (v := 0) hx hb dL_law_1146 (by decide) ?_
                refine lv_istore (lv' := [(14, .int 0), (5, .int (v5_1 + 1)), (6, .int 0), (13, .int v13_177), (15, .int v15_174), (16, .int v16_1), (0, .ref b), (1, .ref qX), (2, .int v2), (4, .int v4), (7, .int v7), (9, .int v9), (10, .int v10), (11, .int v11)]) hx hb dL_law_1147 hl (by decide) rfl (fun ls hl => ?_)
                refine lv_iinc (v := v16_1 + 1) (lv' := [(16, .int (v16_1 + 1)), (14, .int 0), (5, .int (v5_1 + 1)), (6, .int 0), (13, .int v13_177), (15, .int v15_174), (0, .ref b), (1, .ref qX), (2, .int v2), (4, .int v4), (7, .int v7), (9, .int v9), (10, .int v10), (11, .int v11)]) hx hb dL_law_1149 hl (k := 5) rfl rfl (by decide) rfl (fun ls hl => ?_)
                refine lv_goto (tgt := 1010) hx hb dL_law_1152 (by decide) ?_
                exact ag (v16_1 + 1, v15_174, v5_1 + 1, (0 : Int32), v13_177, (0 : Int32), σP_181, σD_1, σN_1) hF _ _ _ hP hD hS (lv_sub hl [0, 5, 6, 7, 8, 9, 2, 3, 10, 11, 12, 13, 4, 1] rfl)
              · have hF := q_if_t (by first | exact c_184 | exact Classical.not_not.mp c_184) hF
                refine lv_aload_n hx hb dL_law_1099 rfl (lv_at hl 6 rfl) ?_
                refine lv_iconst (v := 1) hx hb dL_law_1100 (by decide) ?_
                obtain ⟨⟨r_185, σN_186, σD_187⟩, h_188, hF⟩ := q_cl_s hF
                try dsimp only at hF
                refine gcV_i (As := [.int 1]) (rest := []) (ci := 6) (q := (RX6, TX6, 8)) F hK hN hP hD hS hA (m_X6_pan l g H.size qX AX σN_1 AP σP_181 AD σD_1 AC σC (1 : Int32) r_185 σN_186 σD_187 h_188) gL_law_X6_pan kX6_pan rfl rfl rfl rfl ⟨(Nat.le_of_ble_eq_true rfl), (Nat.le_of_ble_eq_true rfl)⟩ [0, 19, 17, 18, 9, 10, 11, 12, 13, 14, 15, 16, 1, 2, 3, 4, 5, 6, 7, 8] [20, 21, 22, 23, 24, 25, 26, 27, 28, 29, 30, 31] rfl rfl rfl (by decide) rfl rfl rfl rfl rfl hl.1 (Nat.le_of_ble_eq_true rfl) dL_law_1101 ⟨(Nat.le_of_ble_eq_true rfl), (Nat.le_of_ble_eq_true rfl)⟩ (fun r_w u_w H locs hw hP hD hS => ?_)
                have hP : va_P g.1 vwCl (wX6 qX AX ++ wX1 g (AX 0) AC σC ++ wX1 g (AX 1) AD σD_187 ++ wX3 g (AX 3) AP σP_181 ++ wX2 (AX 4) σN_186 ++ wX5 g (AX 5) AW (.ref qH) σW ++ wX4 g (AX 6) AY σY ++ wX0 g (AX 7) AK σK ℓK ++ wH g qH σH) H := hP.sub [12, 24, 25, 26, 27, 28, 29, 30, 31, 16, 17, 18, 19, 20, 21, 22, 23, 14, 15, 13, 0, 1, 2, 3, 4, 5, 6, 7, 8, 9, 10, 11] rfl
                have hD : va_D Z (wX6 qX AX ++ wX1 g (AX 0) AC σC ++ wX1 g (AX 1) AD σD_187 ++ wX3 g (AX 3) AP σP_181 ++ wX2 (AX 4) σN_186 ++ wX5 g (AX 5) AW (.ref qH) σW ++ wX4 g (AX 6) AY σY ++ wX0 g (AX 7) AK σK ℓK ++ wH g qH σH) := hD.sub [12, 24, 25, 26, 27, 28, 29, 30, 31, 16, 17, 18, 19, 20, 21, 22, 23, 14, 15, 13, 0, 1, 2, 3, 4, 5, 6, 7, 8, 9, 10, 11] (by decide) rfl
                obtain rfl : r_185 = r_w := hw.symm
                refine lv_iload hx hb dL_law_1104 (lv_at hl 1 rfl) ?_
                refine lv_icmp_ne (tgt := 1146) hx hb dL_law_1106 (by decide) (fun c_190 => ?_) (fun c_190 => ?_)
                · have hF := q_if_f c_190 hF
                  refine lv_iconst (v := 0) hx hb dL_law_1146 (by decide) ?_
                  refine lv_istore (lv' := [(14, .int 0), (5, .int (v5_1 + 1)), (6, .int 0), (13, .int v13_177), (15, .int v15_174), (16, .int v16_1), (0, .ref b), (1, .ref qX), (2, .int v2), (4, .int v4), (7, .int v7), (9, .int v9), (10, .int v10), (11, .int v11)]) hx hb dL_law_1147 hl (by decide) rfl (fun ls hl => ?_)
                  refine lv_iinc (v := v16_1 + 1) (lv' := [(16, .int (v16_1 + 1)), (14, .int 0), (5, .int (v5_1 + 1)), (6, .int 0), (13, .int v13_177), (15, .int v15_174), (0, .ref b), (1, .ref qX), (2, .int v2), (4, .int v4), (7, .int v7), (9, .int v9), (10, .int v10), (11, .int v11)]) hx hb dL_law_1149 hl (k := 5) rfl rfl (by decide) rfl (fun ls hl => ?_)
                  refine lv_goto (tgt := 1010) hx hb dL_law_1152 (by decide) ?_
                  exact ag (v16_1 + 1, v15_174, v5_1 + 1, (0 : Int32), v13_177, (0 : Int32), σP_181, σD_187, σN_186) hF _ _ _ hP hD hS (lv_sub hl [0, 5, 6, 7, 8, 9, 2, 3, 10, 11, 12, 13, 4, 1] rfl)
                · have hF := q_if_t (by first | exact c_190 | exact Classical.not_not.mp c_190) hF
                  refine lv_aload_n hx hb dL_law_1109 rfl (lv_at hl 6 rfl) ?_
                  refine lv_iload hx hb dL_law_1110 (lv_at hl 11 rfl) ?_
                  refine lv_iconst (v := 1) hx hb dL_law_1112 (by decide) ?_
                  obtain ⟨⟨r_191, σN_192, σD_193⟩, h_194, hF⟩ := q_cl_s hF
                  try dsimp only at hF
                  refine gcV_i (As := [.int v10, .int 1]) (rest := []) (ci := 6) (q := (RX6, TX6, 8)) F hK hN hP hD hS hA (m_X6_behind l g H.size qX AX σN_186 AP σP_181 AD σD_187 AC σC v10 (1 : Int32) r_191 σN_192 σD_193 h_194) gL_law_X6_behind kX6_behind rfl rfl rfl rfl ⟨(Nat.le_of_ble_eq_true rfl), (Nat.le_of_ble_eq_true rfl)⟩ [0, 19, 17, 18, 9, 10, 11, 12, 13, 14, 15, 16, 1, 2, 3, 4, 5, 6, 7, 8] [20, 21, 22, 23, 24, 25, 26, 27, 28, 29, 30, 31] rfl rfl rfl (by decide) rfl rfl rfl rfl rfl hl.1 (Nat.le_of_ble_eq_true rfl) dL_law_1113 ⟨(Nat.le_of_ble_eq_true rfl), (Nat.le_of_ble_eq_true rfl)⟩ (fun r_w u_w H locs hw hP hD hS => ?_)
                  have hP : va_P g.1 vwCl (wX6 qX AX ++ wX1 g (AX 0) AC σC ++ wX1 g (AX 1) AD σD_193 ++ wX3 g (AX 3) AP σP_181 ++ wX2 (AX 4) σN_192 ++ wX5 g (AX 5) AW (.ref qH) σW ++ wX4 g (AX 6) AY σY ++ wX0 g (AX 7) AK σK ℓK ++ wH g qH σH) H := hP.sub [12, 24, 25, 26, 27, 28, 29, 30, 31, 16, 17, 18, 19, 20, 21, 22, 23, 14, 15, 13, 0, 1, 2, 3, 4, 5, 6, 7, 8, 9, 10, 11] rfl
                  have hD : va_D Z (wX6 qX AX ++ wX1 g (AX 0) AC σC ++ wX1 g (AX 1) AD σD_193 ++ wX3 g (AX 3) AP σP_181 ++ wX2 (AX 4) σN_192 ++ wX5 g (AX 5) AW (.ref qH) σW ++ wX4 g (AX 6) AY σY ++ wX0 g (AX 7) AK σK ℓK ++ wH g qH σH) := hD.sub [12, 24, 25, 26, 27, 28, 29, 30, 31, 16, 17, 18, 19, 20, 21, 22, 23, 14, 15, 13, 0, 1, 2, 3, 4, 5, 6, 7, 8, 9, 10, 11] (by decide) rfl
                  obtain rfl : r_191 = r_w := hw.symm
                  refine lv_iload hx hb dL_law_1116 (lv_at hl 2 rfl) ?_
                  refine lv_icmp_ne (tgt := 1146) hx hb dL_law_1118 (by decide) (fun c_196 => ?_) (fun c_196 => ?_)
                  · have hF := q_if_f c_196 hF
                    refine lv_iconst (v := 0) hx hb dL_law_1146 (by decide) ?_
                    refine lv_istore (lv' := [(14, .int 0), (5, .int (v5_1 + 1)), (6, .int 0), (13, .int v13_177), (15, .int v15_174), (16, .int v16_1), (0, .ref b), (1, .ref qX), (2, .int v2), (4, .int v4), (7, .int v7), (9, .int v9), (10, .int v10), (11, .int v11)]) hx hb dL_law_1147 hl (by decide) rfl (fun ls hl => ?_)
                    refine lv_iinc (v := v16_1 + 1) (lv' := [(16, .int (v16_1 + 1)), (14, .int 0), (5, .int (v5_1 + 1)), (6, .int 0), (13, .int v13_177), (15, .int v15_174), (0, .ref b), (1, .ref qX), (2, .int v2), (4, .int v4), (7, .int v7), (9, .int v9), (10, .int v10), (11, .int v11)]) hx hb dL_law_1149 hl (k := 5) rfl rfl (by decide) rfl (fun ls hl => ?_)
                    refine lv_goto (tgt := 1010) hx hb dL_law_1152 (by decide) ?_
                    exact ag (v16_1 + 1, v15_174, v5_1 + 1, (0 : Int32), v13_177, (0 : Int32), σP_181, σD_193, σN_192) hF _ _ _ hP hD hS (lv_sub hl [0, 5, 6, 7, 8, 9, 2, 3, 10, 11, 12, 13, 4, 1] rfl)
                  · have hF := q_if_t (by first | exact c_196 | exact Classical.not_not.mp c_196) hF
                    refine lv_aload_n hx hb dL_law_1121 rfl (lv_at hl 6 rfl) ?_
                    refine lv_iload hx hb dL_law_1122 (lv_at hl 11 rfl) ?_
                    refine lv_iconst (v := 0) hx hb dL_law_1124 (by decide) ?_
                    obtain ⟨⟨r_197, σN_198, σD_199⟩, h_200, hF⟩ := q_cl_s hF
                    try dsimp only at hF
                    refine gcV_i (As := [.int v10, .int 0]) (rest := []) (ci := 6) (q := (RX6, TX6, 8)) F hK hN hP hD hS hA (m_X6_behind l g H.size qX AX σN_192 AP σP_181 AD σD_193 AC σC v10 (0 : Int32) r_197 σN_198 σD_199 h_200) gL_law_X6_behind kX6_behind rfl rfl rfl rfl ⟨(Nat.le_of_ble_eq_true rfl), (Nat.le_of_ble_eq_true rfl)⟩ [0, 19, 17, 18, 9, 10, 11, 12, 13, 14, 15, 16, 1, 2, 3, 4, 5, 6, 7, 8] [20, 21, 22, 23, 24, 25, 26, 27, 28, 29, 30, 31] rfl rfl rfl (by decide) rfl rfl rfl rfl rfl hl.1 (Nat.le_of_ble_eq_true rfl) dL_law_1125 ⟨(Nat.le_of_ble_eq_true rfl), (Nat.le_of_ble_eq_true rfl)⟩ (fun r_w u_w H locs hw hP hD hS => ?_)
                    have hP : va_P g.1 vwCl (wX6 qX AX ++ wX1 g (AX 0) AC σC ++ wX1 g (AX 1) AD σD_199 ++ wX3 g (AX 3) AP σP_181 ++ wX2 (AX 4) σN_198 ++ wX5 g (AX 5) AW (.ref qH) σW ++ wX4 g (AX 6) AY σY ++ wX0 g (AX 7) AK σK ℓK ++ wH g qH σH) H := hP.sub [12, 24, 25, 26, 27, 28, 29, 30, 31, 16, 17, 18, 19, 20, 21, 22, 23, 14, 15, 13, 0, 1, 2, 3, 4, 5, 6, 7, 8, 9, 10, 11] rfl
                    have hD : va_D Z (wX6 qX AX ++ wX1 g (AX 0) AC σC ++ wX1 g (AX 1) AD σD_199 ++ wX3 g (AX 3) AP σP_181 ++ wX2 (AX 4) σN_198 ++ wX5 g (AX 5) AW (.ref qH) σW ++ wX4 g (AX 6) AY σY ++ wX0 g (AX 7) AK σK ℓK ++ wH g qH σH) := hD.sub [12, 24, 25, 26, 27, 28, 29, 30, 31, 16, 17, 18, 19, 20, 21, 22, 23, 14, 15, 13, 0, 1, 2, 3, 4, 5, 6, 7, 8, 9, 10, 11] (by decide) rfl
                    obtain rfl : r_197 = r_w := hw.symm
                    refine lv_iload hx hb dL_law_1128 (lv_at hl 3 rfl) ?_
                    refine lv_if_eq (tgt := 1137) hx hb dL_law_1130 (by decide) (fun c_202 => ?_) (fun c_202 => ?_)
                    · have hF := q_if_t c_202 hF
                      refine lv_bipush (v := (-6)) hx hb dL_law_1137 (by decide) ?_
                      refine lv_icmp_ne (tgt := 1146) hx hb dL_law_1139 (by decide) (fun c_203 => ?_) (fun c_203 => ?_)
                      · have hF := q_if_f c_203 hF
                        refine lv_iconst (v := 0) hx hb dL_law_1146 (by decide) ?_
                        refine lv_istore (lv' := [(14, .int 0), (5, .int (v5_1 + 1)), (6, .int 0), (13, .int v13_177), (15, .int v15_174), (16, .int v16_1), (0, .ref b), (1, .ref qX), (2, .int v2), (4, .int v4), (7, .int v7), (9, .int v9), (10, .int v10), (11, .int v11)]) hx hb dL_law_1147 hl (by decide) rfl (fun ls hl => ?_)
                        refine lv_iinc (v := v16_1 + 1) (lv' := [(16, .int (v16_1 + 1)), (14, .int 0), (5, .int (v5_1 + 1)), (6, .int 0), (13, .int v13_177), (15, .int v15_174), (0, .ref b), (1, .ref qX), (2, .int v2), (4, .int v4), (7, .int v7), (9, .int v9), (10, .int v10), (11, .int v11)]) hx hb dL_law_1149 hl (k := 5) rfl rfl (by decide) rfl (fun ls hl => ?_)
                        refine lv_goto (tgt := 1010) hx hb dL_law_1152 (by decide) ?_
                        exact ag (v16_1 + 1, v15_174, v5_1 + 1, (0 : Int32), v13_177, (0 : Int32), σP_181, σD_199, σN_198) hF _ _ _ hP hD hS (lv_sub hl [0, 5, 6, 7, 8, 9, 2, 3, 10, 11, 12, 13, 4, 1] rfl)
                      · have hF := q_if_t (by first | exact c_203 | exact Classical.not_not.mp c_203) hF
                        refine lv_iconst (v := 1) hx hb dL_law_1142 (by decide) ?_
                        refine lv_goto (tgt := 1147) hx hb dL_law_1143 (by decide) ?_
                        refine lv_istore (lv' := [(14, .int 1), (5, .int (v5_1 + 1)), (6, .int 0), (13, .int v13_177), (15, .int v15_174), (16, .int v16_1), (0, .ref b), (1, .ref qX), (2, .int v2), (4, .int v4), (7, .int v7), (9, .int v9), (10, .int v10), (11, .int v11)]) hx hb dL_law_1147 hl (by decide) rfl (fun ls hl => ?_)
                        refine lv_iinc (v := v16_1 + 1) (lv' := [(16, .int (v16_1 + 1)), (14, .int 1), (5, .int (v5_1 + 1)), (6, .int 0), (13, .int v13_177), (15, .int v15_174), (0, .ref b), (1, .ref qX), (2, .int v2), (4, .int v4), (7, .int v7), (9, .int v9), (10, .int v10), (11, .int v11)]) hx hb dL_law_1149 hl (k := 5) rfl rfl (by decide) rfl (fun ls hl => ?_)
                        refine lv_goto (tgt := 1010) hx hb dL_law_1152 (by decide) ?_
                        exact ag (v16_1 + 1, v15_174, v5_1 + 1, (0 : Int32), v13_177, (1 : Int32), σP_181, σD_199, σN_198) hF _ _ _ hP hD hS (lv_sub hl [0, 5, 6, 7, 8, 9, 2, 3, 10, 11, 12, 13, 4, 1] rfl)
                    · have hF := q_if_f c_202 hF
                      refine lv_iconst (v := 3) hx hb dL_law_1133 (by decide) ?_
                      refine lv_goto (tgt := 1139) hx hb dL_law_1134 (by decide) ?_
                      refine lv_icmp_ne (tgt := 1146) hx hb dL_law_1139 (by decide) (fun c_204 => ?_) (fun c_204 => ?_)
                      · have hF := q_if_f c_204 hF
                        refine lv_iconst (v := 0) hx hb dL_law_1146 (by decide) ?_
                        refine lv_istore (lv' := [(14, .int 0), (5, .int (v5_1 + 1)), (6, .int 0), (13, .int v13_177), (15, .int v15_174), (16, .int v16_1), (0, .ref b), (1, .ref qX), (2, .int v2), (4, .int v4), (7, .int v7), (9, .int v9), (10, .int v10), (11, .int v11)]) hx hb dL_law_1147 hl (by decide) rfl (fun ls hl => ?_)
                        refine lv_iinc (v := v16_1 + 1) (lv' := [(16, .int (v16_1 + 1)), (14, .int 0), (5, .int (v5_1 + 1)), (6, .int 0), (13, .int v13_177), (15, .int v15_174), (0, .ref b), (1, .ref qX), (2, .int v2), (4, .int v4), (7, .int v7), (9, .int v9), (10, .int v10), (11, .int v11)]) hx hb dL_law_1149 hl (k := 5) rfl rfl (by decide) rfl (fun ls hl => ?_)
                        refine lv_goto (tgt := 1010) hx hb dL_law_1152 (by decide) ?_
                        exact ag (v16_1 + 1, v15_174, v5_1 + 1, (0 : Int32), v13_177, (0 : Int32), σP_181, σD_199, σN_198) hF _ _ _ hP hD hS (lv_sub hl [0, 5, 6, 7, 8, 9, 2, 3, 10, 11, 12, 13, 4, 1] rfl)
                      · have hF := q_if_t (by first | exact c_204 | exact Classical.not_not.mp c_204) hF
                        refine lv_iconst (v := 1) hx hb dL_law_1142 (by decide) ?_
                        refine lv_goto (tgt := 1147) hx hb dL_law_1143 (by decide) ?_
                        refine lv_istore (lv' := [(14, .int 1), (5, .int (v5_1 + 1)), (6, .int 0), (13, .int v13_177), (15, .int v15_174), (16, .int v16_1), (0, .ref b), (1, .ref qX), (2, .int v2), (4, .int v4), (7, .int v7), (9, .int v9), (10, .int v10), (11, .int v11)]) hx hb dL_law_1147 hl (by decide) rfl (fun ls hl => ?_)
                        refine lv_iinc (v := v16_1 + 1) (lv' := [(16, .int (v16_1 + 1)), (14, .int 1), (5, .int (v5_1 + 1)), (6, .int 0), (13, .int v13_177), (15, .int v15_174), (0, .ref b), (1, .ref qX), (2, .int v2), (4, .int v4), (7, .int v7), (9, .int v9), (10, .int v10), (11, .int v11)]) hx hb dL_law_1149 hl (k := 5) rfl rfl (by decide) rfl (fun ls hl => ?_)
                        refine lv_goto (tgt := 1010) hx hb dL_law_1152 (by decide) ?_
                        exact ag (v16_1 + 1, v15_174, v5_1 + 1, (0 : Int32), v13_177, (1 : Int32), σP_181, σD_199, σN_198) hF _ _ _ hP hD hS (lv_sub hl [0, 5, 6, 7, 8, 9, 2, 3, 10, 11, 12, 13, 4, 1] rfl)
            · have hF := q_if_f c_179 hF
              refine lv_iload hx hb dL_law_1075 (lv_at hl 8 rfl) ?_
              refine lv_iconst (v := 5) hx hb dL_law_1077 (by decide) ?_
              refine lv_isub hx hb dL_law_1078 ?_
              refine lv_goto (tgt := 1083) hx hb dL_law_1079 (by decide) ?_
              obtain ⟨v6_205, e_206, hF⟩ := q_bd_s hF
              refine gtop e_206 ?_
              refine lv_istore (lv' := [(6, .int v6_205), (13, .int v13_177), (15, .int v15_174), (16, .int v16_1), (0, .ref b), (1, .ref qX), (2, .int v2), (4, .int v4), (5, .int v5_1), (7, .int v7), (9, .int v9), (10, .int v10), (11, .int v11), (14, .int v14_1)]) hx hb dL_law_1083 hl (by decide) rfl (fun ls hl => ?_)
              refine lv_iinc (v := v5_1 + 1) (lv' := [(5, .int (v5_1 + 1)), (6, .int v6_205), (13, .int v13_177), (15, .int v15_174), (16, .int v16_1), (0, .ref b), (1, .ref qX), (2, .int v2), (4, .int v4), (7, .int v7), (9, .int v9), (10, .int v10), (11, .int v11), (14, .int v14_1)]) hx hb dL_law_1085 hl (k := 8) rfl rfl (by decide) rfl (fun ls hl => ?_)
              refine lv_aload_n hx hb dL_law_1088 rfl (lv_at hl 6 rfl) ?_
              refine lv_bipush (v := 42) hx hb dL_law_1089 (by decide) ?_
              obtain ⟨⟨r_207, σP_208⟩, h_209, hF⟩ := q_cl_s hF
              try dsimp only at hF
              refine gcV_i (As := [.int 42]) (rest := []) (ci := 6) (q := (RX6, TX6, 8)) F hK hN hP hD hS hA (m_X6_say l g H.size qX AX AP σP_1 (42 : Int32) r_207 σP_208 h_209) gL_law_X6_say kX6_say rfl rfl rfl rfl ⟨(Nat.le_of_ble_eq_true rfl), (Nat.le_of_ble_eq_true rfl)⟩ [0, 17, 18] [1, 2, 3, 4, 5, 6, 7, 8, 9, 10, 11, 12, 13, 14, 15, 16, 19, 20, 21, 22, 23, 24, 25, 26, 27, 28, 29, 30, 31] rfl rfl rfl (by decide) rfl rfl rfl rfl rfl hl.1 (Nat.le_of_ble_eq_true rfl) dL_law_1091 ⟨(Nat.le_of_ble_eq_true rfl), (Nat.le_of_ble_eq_true rfl)⟩ (fun r_w u_w H locs hw hP hD hS => ?_)
              have hP : va_P g.1 vwCl (wX6 qX AX ++ wX1 g (AX 0) AC σC ++ wX1 g (AX 1) AD σD_1 ++ wX3 g (AX 3) AP σP_208 ++ wX2 (AX 4) σN_1 ++ wX5 g (AX 5) AW (.ref qH) σW ++ wX4 g (AX 6) AY σY ++ wX0 g (AX 7) AK σK ℓK ++ wH g qH σH) H := hP.sub [29, 0, 1, 2, 3, 4, 5, 6, 7, 8, 9, 10, 11, 12, 13, 14, 15, 30, 31, 16, 17, 18, 19, 20, 21, 22, 23, 24, 25, 26, 27, 28] rfl
              have hD : va_D Z (wX6 qX AX ++ wX1 g (AX 0) AC σC ++ wX1 g (AX 1) AD σD_1 ++ wX3 g (AX 3) AP σP_208 ++ wX2 (AX 4) σN_1 ++ wX5 g (AX 5) AW (.ref qH) σW ++ wX4 g (AX 6) AY σY ++ wX0 g (AX 7) AK σK ℓK ++ wH g qH σH) := hD.sub [29, 0, 1, 2, 3, 4, 5, 6, 7, 8, 9, 10, 11, 12, 13, 14, 15, 30, 31, 16, 17, 18, 19, 20, 21, 22, 23, 24, 25, 26, 27, 28] (by decide) rfl
              obtain rfl : r_207 = r_w := hw.symm
              refine lv_iload hx hb dL_law_1094 (lv_at hl 0 rfl) ?_
              refine lv_icmp_ne (tgt := 1146) hx hb dL_law_1096 (by decide) (fun c_211 => ?_) (fun c_211 => ?_)
              · have hF := q_if_f c_211 hF
                refine lv_iconst (v := 0) hx hb dL_law_1146 (by decide) ?_
                refine lv_istore (lv' := [(14, .int 0), (5, .int (v5_1 + 1)), (6, .int v6_205), (13, .int v13_177), (15, .int v15_174), (16, .int v16_1), (0, .ref b), (1, .ref qX), (2, .int v2), (4, .int v4), (7, .int v7), (9, .int v9), (10, .int v10), (11, .int v11)]) hx hb dL_law_1147 hl (by decide) rfl (fun ls hl => ?_)
                refine lv_iinc (v := v16_1 + 1) (lv' := [(16, .int (v16_1 + 1)), (14, .int 0), (5, .int (v5_1 + 1)), (6, .int v6_205), (13, .int v13_177), (15, .int v15_174), (0, .ref b), (1, .ref qX), (2, .int v2), (4, .int v4), (7, .int v7), (9, .int v9), (10, .int v10), (11, .int v11)]) hx hb dL_law_1149 hl (k := 5) rfl rfl (by decide) rfl (fun ls hl => ?_)
                refine lv_goto (tgt := 1010) hx hb dL_law_1152 (by decide) ?_
                exact ag (v16_1 + 1, v15_174, v5_1 + 1, v6_205, v13_177, (0 : Int32), σP_208, σD_1, σN_1) hF _ _ _ hP hD hS (lv_sub hl [0, 5, 6, 7, 8, 9, 2, 3, 10, 11, 12, 13, 4, 1] rfl)
              · have hF := q_if_t (by first | exact c_211 | exact Classical.not_not.mp c_211) hF
                refine lv_aload_n hx hb dL_law_1099 rfl (lv_at hl 6 rfl) ?_
                refine lv_iconst (v := 1) hx hb dL_law_1100 (by decide) ?_
                obtain ⟨⟨r_212, σN_213, σD_214⟩, h_215, hF⟩ := q_cl_s hF
                try dsimp only at hF
                refine gcV_i (As := [.int 1]) (rest := []) (ci := 6) (q := (RX6, TX6, 8)) F hK hN hP hD hS hA (m_X6_pan l g H.size qX AX σN_1 AP σP_208 AD σD_1 AC σC (1 : Int32) r_212 σN_213 σD_214 h_215) gL_law_X6_pan kX6_pan rfl rfl rfl rfl ⟨(Nat.le_of_ble_eq_true rfl), (Nat.le_of_ble_eq_true rfl)⟩ [0, 19, 17, 18, 9, 10, 11, 12, 13, 14, 15, 16, 1, 2, 3, 4, 5, 6, 7, 8] [20, 21, 22, 23, 24, 25, 26, 27, 28, 29, 30, 31] rfl rfl rfl (by decide) rfl rfl rfl rfl rfl hl.1 (Nat.le_of_ble_eq_true rfl) dL_law_1101 ⟨(Nat.le_of_ble_eq_true rfl), (Nat.le_of_ble_eq_true rfl)⟩ (fun r_w u_w H locs hw hP hD hS => ?_)
                have hP : va_P g.1 vwCl (wX6 qX AX ++ wX1 g (AX 0) AC σC ++ wX1 g (AX 1) AD σD_214 ++ wX3 g (AX 3) AP σP_208 ++ wX2 (AX 4) σN_213 ++ wX5 g (AX 5) AW (.ref qH) σW ++ wX4 g (AX 6) AY σY ++ wX0 g (AX 7) AK σK ℓK ++ wH g qH σH) H := hP.sub [12, 24, 25, 26, 27, 28, 29, 30, 31, 16, 17, 18, 19, 20, 21, 22, 23, 14, 15, 13, 0, 1, 2, 3, 4, 5, 6, 7, 8, 9, 10, 11] rfl
                have hD : va_D Z (wX6 qX AX ++ wX1 g (AX 0) AC σC ++ wX1 g (AX 1) AD σD_214 ++ wX3 g (AX 3) AP σP_208 ++ wX2 (AX 4) σN_213 ++ wX5 g (AX 5) AW (.ref qH) σW ++ wX4 g (AX 6) AY σY ++ wX0 g (AX 7) AK σK ℓK ++ wH g qH σH) := hD.sub [12, 24, 25, 26, 27, 28, 29, 30, 31, 16, 17, 18, 19, 20, 21, 22, 23, 14, 15, 13, 0, 1, 2, 3, 4, 5, 6, 7, 8, 9, 10, 11] (by decide) rfl
                obtain rfl : r_212 = r_w := hw.symm
                refine lv_iload hx hb dL_law_1104 (lv_at hl 1 rfl) ?_
                refine lv_icmp_ne (tgt := 1146) hx hb dL_law_1106 (by decide) (fun c_217 => ?_) (fun c_217 => ?_)
                · have hF := q_if_f c_217 hF
                  refine lv_iconst (v := 0) hx hb dL_law_1146 (by decide) ?_
                  refine lv_istore (lv' := [(14, .int 0), (5, .int (v5_1 + 1)), (6, .int v6_205), (13, .int v13_177), (15, .int v15_174), (16, .int v16_1), (0, .ref b), (1, .ref qX), (2, .int v2), (4, .int v4), (7, .int v7), (9, .int v9), (10, .int v10), (11, .int v11)]) hx hb dL_law_1147 hl (by decide) rfl (fun ls hl => ?_)
                  refine lv_iinc (v := v16_1 + 1) (lv' := [(16, .int (v16_1 + 1)), (14, .int 0), (5, .int (v5_1 + 1)), (6, .int v6_205), (13, .int v13_177), (15, .int v15_174), (0, .ref b), (1, .ref qX), (2, .int v2), (4, .int v4), (7, .int v7), (9, .int v9), (10, .int v10), (11, .int v11)]) hx hb dL_law_1149 hl (k := 5) rfl rfl (by decide) rfl (fun ls hl => ?_)
                  refine lv_goto (tgt := 1010) hx hb dL_law_1152 (by decide) ?_
                  exact ag (v16_1 + 1, v15_174, v5_1 + 1, v6_205, v13_177, (0 : Int32), σP_208, σD_214, σN_213) hF _ _ _ hP hD hS (lv_sub hl [0, 5, 6, 7, 8, 9, 2, 3, 10, 11, 12, 13, 4, 1] rfl)
                · have hF := q_if_t (by first | exact c_217 | exact Classical.not_not.mp c_217) hF
                  refine lv_aload_n hx hb dL_law_1109 rfl (lv_at hl 6 rfl) ?_
                  refine lv_iload hx hb dL_law_1110 (lv_at hl 11 rfl) ?_
                  refine lv_iconst (v := 1) hx hb dL_law_1112 (by decide) ?_
                  obtain ⟨⟨r_218, σN_219, σD_220⟩, h_221, hF⟩ := q_cl_s hF
                  try dsimp only at hF
                  refine gcV_i (As := [.int v10, .int 1]) (rest := []) (ci := 6) (q := (RX6, TX6, 8)) F hK hN hP hD hS hA (m_X6_behind l g H.size qX AX σN_213 AP σP_208 AD σD_214 AC σC v10 (1 : Int32) r_218 σN_219 σD_220 h_221) gL_law_X6_behind kX6_behind rfl rfl rfl rfl ⟨(Nat.le_of_ble_eq_true rfl), (Nat.le_of_ble_eq_true rfl)⟩ [0, 19, 17, 18, 9, 10, 11, 12, 13, 14, 15, 16, 1, 2, 3, 4, 5, 6, 7, 8] [20, 21, 22, 23, 24, 25, 26, 27, 28, 29, 30, 31] rfl rfl rfl (by decide) rfl rfl rfl rfl rfl hl.1 (Nat.le_of_ble_eq_true rfl) dL_law_1113 ⟨(Nat.le_of_ble_eq_true rfl), (Nat.le_of_ble_eq_true rfl)⟩ (fun r_w u_w H locs hw hP hD hS => ?_)
                  have hP : va_P g.1 vwCl (wX6 qX AX ++ wX1 g (AX 0) AC σC ++ wX1 g (AX 1) AD σD_220 ++ wX3 g (AX 3) AP σP_208 ++ wX2 (AX 4) σN_219 ++ wX5 g (AX 5) AW (.ref qH) σW ++ wX4 g (AX 6) AY σY ++ wX0 g (AX 7) AK σK ℓK ++ wH g qH σH) H := hP.sub [12, 24, 25, 26, 27, 28, 29, 30, 31, 16, 17, 18, 19, 20, 21, 22, 23, 14, 15, 13, 0, 1, 2, 3, 4, 5, 6, 7, 8, 9, 10, 11] rfl
                  have hD : va_D Z (wX6 qX AX ++ wX1 g (AX 0) AC σC ++ wX1 g (AX 1) AD σD_220 ++ wX3 g (AX 3) AP σP_208 ++ wX2 (AX 4) σN_219 ++ wX5 g (AX 5) AW (.ref qH) σW ++ wX4 g (AX 6) AY σY ++ wX0 g (AX 7) AK σK ℓK ++ wH g qH σH) := hD.sub [12, 24, 25, 26, 27, 28, 29, 30, 31, 16, 17, 18, 19, 20, 21, 22, 23, 14, 15, 13, 0, 1, 2, 3, 4, 5, 6, 7, 8, 9, 10, 11] (by decide) rfl
                  obtain rfl : r_218 = r_w := hw.symm
                  refine lv_iload hx hb dL_law_1116 (lv_at hl 2 rfl) ?_
                  refine lv_icmp_ne (tgt := 1146) hx hb dL_law_1118 (by decide) (fun c_223 => ?_) (fun c_223 => ?_)
                  · have hF := q_if_f c_223 hF
                    refine lv_iconst (v := 0) hx hb dL_law_1146 (by decide) ?_
                    refine lv_istore (lv' := [(14, .int 0), (5, .int (v5_1 + 1)), (6, .int v6_205), (13, .int v13_177), (15, .int v15_174), (16, .int v16_1), (0, .ref b), (1, .ref qX), (2, .int v2), (4, .int v4), (7, .int v7), (9, .int v9), (10, .int v10), (11, .int v11)]) hx hb dL_law_1147 hl (by decide) rfl (fun ls hl => ?_)
                    refine lv_iinc (v := v16_1 + 1) (lv' := [(16, .int (v16_1 + 1)), (14, .int 0), (5, .int (v5_1 + 1)), (6, .int v6_205), (13, .int v13_177), (15, .int v15_174), (0, .ref b), (1, .ref qX), (2, .int v2), (4, .int v4), (7, .int v7), (9, .int v9), (10, .int v10), (11, .int v11)]) hx hb dL_law_1149 hl (k := 5) rfl rfl (by decide) rfl (fun ls hl => ?_)
                    refine lv_goto (tgt := 1010) hx hb dL_law_1152 (by decide) ?_
                    exact ag (v16_1 + 1, v15_174, v5_1 + 1, v6_205, v13_177, (0 : Int32), σP_208, σD_220, σN_219) hF _ _ _ hP hD hS (lv_sub hl [0, 5, 6, 7, 8, 9, 2, 3, 10, 11, 12, 13, 4, 1] rfl)
                  · have hF := q_if_t (by first | exact c_223 | exact Classical.not_not.mp c_223) hF
                    refine lv_aload_n hx hb dL_law_1121 rfl (lv_at hl 6 rfl) ?_
                    refine lv_iload hx hb dL_law_1122 (lv_at hl 11 rfl) ?_
                    refine lv_iconst (v := 0) hx hb dL_law_1124 (by decide) ?_
                    obtain ⟨⟨r_224, σN_225, σD_226⟩, h_227, hF⟩ := q_cl_s hF
                    try dsimp only at hF
                    refine gcV_i (As := [.int v10, .int 0]) (rest := []) (ci := 6) (q := (RX6, TX6, 8)) F hK hN hP hD hS hA (m_X6_behind l g H.size qX AX σN_219 AP σP_208 AD σD_220 AC σC v10 (0 : Int32) r_224 σN_225 σD_226 h_227) gL_law_X6_behind kX6_behind rfl rfl rfl rfl ⟨(Nat.le_of_ble_eq_true rfl), (Nat.le_of_ble_eq_true rfl)⟩ [0, 19, 17, 18, 9, 10, 11, 12, 13, 14, 15, 16, 1, 2, 3, 4, 5, 6, 7, 8] [20, 21, 22, 23, 24, 25, 26, 27, 28, 29, 30, 31] rfl rfl rfl (by decide) rfl rfl rfl rfl rfl hl.1 (Nat.le_of_ble_eq_true rfl) dL_law_1125 ⟨(Nat.le_of_ble_eq_true rfl), (Nat.le_of_ble_eq_true rfl)⟩ (fun r_w u_w H locs hw hP hD hS => ?_)
                    have hP : va_P g.1 vwCl (wX6 qX AX ++ wX1 g (AX 0) AC σC ++ wX1 g (AX 1) AD σD_226 ++ wX3 g (AX 3) AP σP_208 ++ wX2 (AX 4) σN_225 ++ wX5 g (AX 5) AW (.ref qH) σW ++ wX4 g (AX 6) AY σY ++ wX0 g (AX 7) AK σK ℓK ++ wH g qH σH) H := hP.sub [12, 24, 25, 26, 27, 28, 29, 30, 31, 16, 17, 18, 19, 20, 21, 22, 23, 14, 15, 13, 0, 1, 2, 3, 4, 5, 6, 7, 8, 9, 10, 11] rfl
                    have hD : va_D Z (wX6 qX AX ++ wX1 g (AX 0) AC σC ++ wX1 g (AX 1) AD σD_226 ++ wX3 g (AX 3) AP σP_208 ++ wX2 (AX 4) σN_225 ++ wX5 g (AX 5) AW (.ref qH) σW ++ wX4 g (AX 6) AY σY ++ wX0 g (AX 7) AK σK ℓK ++ wH g qH σH) := hD.sub [12, 24, 25, 26, 27, 28, 29, 30, 31, 16, 17, 18, 19, 20, 21, 22, 23, 14, 15, 13, 0, 1, 2, 3, 4, 5, 6, 7, 8, 9, 10, 11] (by decide) rfl
                    obtain rfl : r_224 = r_w := hw.symm
                    refine lv_iload hx hb dL_law_1128 (lv_at hl 3 rfl) ?_
                    refine lv_if_eq (tgt := 1137) hx hb dL_law_1130 (by decide) (fun c_229 => ?_) (fun c_229 => ?_)
                    · have hF := q_if_t c_229 hF
                      refine lv_bipush (v := (-6)) hx hb dL_law_1137 (by decide) ?_
                      refine lv_icmp_ne (tgt := 1146) hx hb dL_law_1139 (by decide) (fun c_230 => ?_) (fun c_230 => ?_)
                      · have hF := q_if_f c_230 hF
                        refine lv_iconst (v := 0) hx hb dL_law_1146 (by decide) ?_
                        refine lv_istore (lv' := [(14, .int 0), (5, .int (v5_1 + 1)), (6, .int v6_205), (13, .int v13_177), (15, .int v15_174), (16, .int v16_1), (0, .ref b), (1, .ref qX), (2, .int v2), (4, .int v4), (7, .int v7), (9, .int v9), (10, .int v10), (11, .int v11)]) hx hb dL_law_1147 hl (by decide) rfl (fun ls hl => ?_)
                        refine lv_iinc (v := v16_1 + 1) (lv' := [(16, .int (v16_1 + 1)), (14, .int 0), (5, .int (v5_1 + 1)), (6, .int v6_205), (13, .int v13_177), (15, .int v15_174), (0, .ref b), (1, .ref qX), (2, .int v2), (4, .int v4), (7, .int v7), (9, .int v9), (10, .int v10), (11, .int v11)]) hx hb dL_law_1149 hl (k := 5) rfl rfl (by decide) rfl (fun ls hl => ?_)
                        refine lv_goto (tgt := 1010) hx hb dL_law_1152 (by decide) ?_
                        exact ag (v16_1 + 1, v15_174, v5_1 + 1, v6_205, v13_177, (0 : Int32), σP_208, σD_226, σN_225) hF _ _ _ hP hD hS (lv_sub hl [0, 5, 6, 7, 8, 9, 2, 3, 10, 11, 12, 13, 4, 1] rfl)
                      · have hF := q_if_t (by first | exact c_230 | exact Classical.not_not.mp c_230) hF
                        refine lv_iconst (v := 1) hx hb dL_law_1142 (by decide) ?_
                        refine lv_goto (tgt := 1147) hx hb dL_law_1143 (by decide) ?_
                        refine lv_istore (lv' := [(14, .int 1), (5, .int (v5_1 + 1)), (6, .int v6_205), (13, .int v13_177), (15, .int v15_174), (16, .int v16_1), (0, .ref b), (1, .ref qX), (2, .int v2), (4, .int v4), (7, .int v7), (9, .int v9), (10, .int v10), (11, .int v11)]) hx hb dL_law_1147 hl (by decide) rfl (fun ls hl => ?_)
                        refine lv_iinc (v := v16_1 + 1) (lv' := [(16, .int (v16_1 + 1)), (14, .int 1), (5, .int (v5_1 + 1)), (6, .int v6_205), (13, .int v13_177), (15, .int v15_174), (0, .ref b), (1, .ref qX), (2, .int v2), (4, .int v4), (7, .int v7), (9, .int v9), (10, .int v10), (11, .int v11)]) hx hb dL_law_1149 hl (k := 5) rfl rfl (by decide) rfl (fun ls hl => ?_)
                        refine lv_goto (tgt := 1010) hx hb dL_law_1152 (by decide) ?_
                        exact ag (v16_1 + 1, v15_174, v5_1 + 1, v6_205, v13_177, (1 : Int32), σP_208, σD_226, σN_225) hF _ _ _ hP hD hS (lv_sub hl [0, 5, 6, 7, 8, 9, 2, 3, 10, 11, 12, 13, 4, 1] rfl)
                    · have hF := q_if_f c_229 hF
                      refine lv_iconst (v := 3) hx hb dL_law_1133 (by decide) ?_
                      refine lv_goto (tgt := 1139) hx hb dL_law_1134 (by decide) ?_
                      refine lv_icmp_ne (tgt := 1146) hx hb dL_law_1139 (by decide) (fun c_231 => ?_) (fun c_231 => ?_)
                      · have hF := q_if_f c_231 hF
                        refine lv_iconst (v := 0) hx hb dL_law_1146 (by decide) ?_
                        refine lv_istore (lv' := [(14, .int 0), (5, .int (v5_1 + 1)), (6, .int v6_205), (13, .int v13_177), (15, .int v15_174), (16, .int v16_1), (0, .ref b), (1, .ref qX), (2, .int v2), (4, .int v4), (7, .int v7), (9, .int v9), (10, .int v10), (11, .int v11)]) hx hb dL_law_1147 hl (by decide) rfl (fun ls hl => ?_)
                        refine lv_iinc (v := v16_1 + 1) (lv' := [(16, .int (v16_1 + 1)), (14, .int 0), (5, .int (v5_1 + 1)), (6, .int v6_205), (13, .int v13_177), (15, .int v15_174), (0, .ref b), (1, .ref qX), (2, .int v2), (4, .int v4), (7, .int v7), (9, .int v9), (10, .int v10), (11, .int v11)]) hx hb dL_law_1149 hl (k := 5) rfl rfl (by decide) rfl (fun ls hl => ?_)
                        refine lv_goto (tgt := 1010) hx hb dL_law_1152 (by decide) ?_
                        exact ag (v16_1 + 1, v15_174, v5_1 + 1, v6_205, v13_177, (0 : Int32), σP_208, σD_226, σN_225) hF _ _ _ hP hD hS (lv_sub hl [0, 5, 6, 7, 8, 9, 2, 3, 10, 11, 12, 13, 4, 1] rfl)
                      · have hF := q_if_t (by first | exact c_231 | exact Classical.not_not.mp c_231) hF
                        refine lv_iconst (v := 1) hx hb dL_law_1142 (by decide) ?_
                        refine lv_goto (tgt := 1147) hx hb dL_law_1143 (by decide) ?_
                        refine lv_istore (lv' := [(14, .int 1), (5, .int (v5_1 + 1)), (6, .int v6_205), (13, .int v13_177), (15, .int v15_174), (16, .int v16_1), (0, .ref b), (1, .ref qX), (2, .int v2), (4, .int v4), (7, .int v7), (9, .int v9), (10, .int v10), (11, .int v11)]) hx hb dL_law_1147 hl (by decide) rfl (fun ls hl => ?_)
                        refine lv_iinc (v := v16_1 + 1) (lv' := [(16, .int (v16_1 + 1)), (14, .int 1), (5, .int (v5_1 + 1)), (6, .int v6_205), (13, .int v13_177), (15, .int v15_174), (0, .ref b), (1, .ref qX), (2, .int v2), (4, .int v4), (7, .int v7), (9, .int v9), (10, .int v10), (11, .int v11)]) hx hb dL_law_1149 hl (k := 5) rfl rfl (by decide) rfl (fun ls hl => ?_)
                        refine lv_goto (tgt := 1010) hx hb dL_law_1152 (by decide) ?_
                        exact ag (v16_1 + 1, v15_174, v5_1 + 1, v6_205, v13_177, (1 : Int32), σP_208, σD_226, σN_225) hF _ _ _ hP hD hS (lv_sub hl [0, 5, 6, 7, 8, 9, 2, 3, 10, 11, 12, 13, 4, 1] rfl)
          · have hF := q_if_f c_176 hF
            refine lv_iload hx hb dL_law_1054 (lv_at hl 12 rfl) ?_
            refine lv_bipush (v := 9) hx hb dL_law_1056 (by decide) ?_
            refine lv_icmp_ne (tgt := 1065) hx hb dL_law_1058 (by decide) (fun c_232 => ?_) (fun c_232 => ?_)
            · have hF := q_if_f c_232 hF
              refine lv_iconst (v := 1) hx hb dL_law_1065 (by decide) ?_
              refine lv_iadd hx hb dL_law_1066 ?_
              obtain ⟨v13_233, e_234, hF⟩ := q_bd_s hF
              refine gtop e_234 ?_
              refine lv_istore (lv' := [(13, .int v13_233), (15, .int v15_174), (16, .int v16_1), (0, .ref b), (1, .ref qX), (2, .int v2), (4, .int v4), (5, .int v5_1), (6, .int v6_1), (7, .int v7), (9, .int v9), (10, .int v10), (11, .int v11), (14, .int v14_1)]) hx hb dL_law_1067 hl (by decide) rfl (fun ls hl => ?_)
              refine lv_iload hx hb dL_law_1069 (lv_at hl 8 rfl) ?_
              refine lv_iconst (v := 5) hx hb dL_law_1071 (by decide) ?_
              refine lv_icmp_le (tgt := 1082) hx hb dL_law_1072 (by decide) (fun c_235 => ?_) (fun c_235 => ?_)
              · have hF := q_if_t c_235 hF
                refine lv_iconst (v := 0) hx hb dL_law_1082 (by decide) ?_
                refine lv_istore (lv' := [(6, .int 0), (13, .int v13_233), (15, .int v15_174), (16, .int v16_1), (0, .ref b), (1, .ref qX), (2, .int v2), (4, .int v4), (5, .int v5_1), (7, .int v7), (9, .int v9), (10, .int v10), (11, .int v11), (14, .int v14_1)]) hx hb dL_law_1083 hl (by decide) rfl (fun ls hl => ?_)
                refine lv_iinc (v := v5_1 + 1) (lv' := [(5, .int (v5_1 + 1)), (6, .int 0), (13, .int v13_233), (15, .int v15_174), (16, .int v16_1), (0, .ref b), (1, .ref qX), (2, .int v2), (4, .int v4), (7, .int v7), (9, .int v9), (10, .int v10), (11, .int v11), (14, .int v14_1)]) hx hb dL_law_1085 hl (k := 8) rfl rfl (by decide) rfl (fun ls hl => ?_)
                refine lv_aload_n hx hb dL_law_1088 rfl (lv_at hl 6 rfl) ?_
                refine lv_bipush (v := 42) hx hb dL_law_1089 (by decide) ?_
                obtain ⟨⟨r_236, σP_237⟩, h_238, hF⟩ := q_cl_s hF
                try dsimp only at hF
                refine gcV_i (As := [.int 42]) (rest := []) (ci := 6) (q := (RX6, TX6, 8)) F hK hN hP hD hS hA (m_X6_say l g H.size qX AX AP σP_1 (42 : Int32) r_236 σP_237 h_238) gL_law_X6_say kX6_say rfl rfl rfl rfl ⟨(Nat.le_of_ble_eq_true rfl), (Nat.le_of_ble_eq_true rfl)⟩ [0, 17, 18] [1, 2, 3, 4, 5, 6, 7, 8, 9, 10, 11, 12, 13, 14, 15, 16, 19, 20, 21, 22, 23, 24, 25, 26, 27, 28, 29, 30, 31] rfl rfl rfl (by decide) rfl rfl rfl rfl rfl hl.1 (Nat.le_of_ble_eq_true rfl) dL_law_1091 ⟨(Nat.le_of_ble_eq_true rfl), (Nat.le_of_ble_eq_true rfl)⟩ (fun r_w u_w H locs hw hP hD hS => ?_)
                have hP : va_P g.1 vwCl (wX6 qX AX ++ wX1 g (AX 0) AC σC ++ wX1 g (AX 1) AD σD_1 ++ wX3 g (AX 3) AP σP_237 ++ wX2 (AX 4) σN_1 ++ wX5 g (AX 5) AW (.ref qH) σW ++ wX4 g (AX 6) AY σY ++ wX0 g (AX 7) AK σK ℓK ++ wH g qH σH) H := hP.sub [29, 0, 1, 2, 3, 4, 5, 6, 7, 8, 9, 10, 11, 12, 13, 14, 15, 30, 31, 16, 17, 18, 19, 20, 21, 22, 23, 24, 25, 26, 27, 28] rfl
                have hD : va_D Z (wX6 qX AX ++ wX1 g (AX 0) AC σC ++ wX1 g (AX 1) AD σD_1 ++ wX3 g (AX 3) AP σP_237 ++ wX2 (AX 4) σN_1 ++ wX5 g (AX 5) AW (.ref qH) σW ++ wX4 g (AX 6) AY σY ++ wX0 g (AX 7) AK σK ℓK ++ wH g qH σH) := hD.sub [29, 0, 1, 2, 3, 4, 5, 6, 7, 8, 9, 10, 11, 12, 13, 14, 15, 30, 31, 16, 17, 18, 19, 20, 21, 22, 23, 24, 25, 26, 27, 28] (by decide) rfl
                obtain rfl : r_236 = r_w := hw.symm
                refine lv_iload hx hb dL_law_1094 (lv_at hl 0 rfl) ?_
                refine lv_icmp_ne (tgt := 1146) hx hb dL_law_1096 (by decide) (fun c_240 => ?_) (fun c_240 => ?_)
                · have hF := q_if_f c_240 hF
                  refine lv_iconst (v := 0) hx hb dL_law_1146 (by decide) ?_
                  refine lv_istore (lv' := [(14, .int 0), (5, .int (v5_1 + 1)), (6, .int 0), (13, .int v13_233), (15, .int v15_174), (16, .int v16_1), (0, .ref b), (1, .ref qX), (2, .int v2), (4, .int v4), (7, .int v7), (9, .int v9), (10, .int v10), (11, .int v11)]) hx hb dL_law_1147 hl (by decide) rfl (fun ls hl => ?_)
                  refine lv_iinc (v := v16_1 + 1) (lv' := [(16, .int (v16_1 + 1)), (14, .int 0), (5, .int (v5_1 + 1)), (6, .int 0), (13, .int v13_233), (15, .int v15_174), (0, .ref b), (1, .ref qX), (2, .int v2), (4, .int v4), (7, .int v7), (9, .int v9), (10, .int v10), (11, .int v11)]) hx hb dL_law_1149 hl (k := 5) rfl rfl (by decide) rfl (fun ls hl => ?_)
                  refine lv_goto (tgt := 1010) hx hb dL_law_1152 (by decide) ?_
                  exact ag (v16_1 + 1, v15_174, v5_1 + 1, (0 : Int32), v13_233, (0 : Int32), σP_237, σD_1, σN_1) hF _ _ _ hP hD hS (lv_sub hl [0, 5, 6, 7, 8, 9, 2, 3, 10, 11, 12, 13, 4, 1] rfl)
                · have hF := q_if_t (by first | exact c_240 | exact Classical.not_not.mp c_240) hF
                  refine lv_aload_n hx hb dL_law_1099 rfl (lv_at hl 6 rfl) ?_
                  refine lv_iconst (v := 1) hx hb dL_law_1100 (by decide) ?_
                  obtain ⟨⟨r_241, σN_242, σD_243⟩, h_244, hF⟩ := q_cl_s hF
                  try dsimp only at hF
                  refine gcV_i (As := [.int 1]) (rest := []) (ci := 6) (q := (RX6, TX6, 8)) F hK hN hP hD hS hA (m_X6_pan l g H.size qX AX σN_1 AP σP_237 AD σD_1 AC σC (1 : Int32) r_241 σN_242 σD_243 h_244) gL_law_X6_pan kX6_pan rfl rfl rfl rfl ⟨(Nat.le_of_ble_eq_true rfl), (Nat.le_of_ble_eq_true rfl)⟩ [0, 19, 17, 18, 9, 10, 11, 12, 13, 14, 15, 16, 1, 2, 3, 4, 5, 6, 7, 8] [20, 21, 22, 23, 24, 25, 26, 27, 28, 29, 30, 31] rfl rfl rfl (by decide) rfl rfl rfl rfl rfl hl.1 (Nat.le_of_ble_eq_true rfl) dL_law_1101 ⟨(Nat.le_of_ble_eq_true rfl), (Nat.le_of_ble_eq_true rfl)⟩ (fun r_w u_w H locs hw hP hD hS => ?_)
                  have hP : va_P g.1 vwCl (wX6 qX AX ++ wX1 g (AX 0) AC σC ++ wX1 g (AX 1) AD σD_243 ++ wX3 g (AX 3) AP σP_237 ++ wX2 (AX 4) σN_242 ++ wX5 g (AX 5) AW (.ref qH) σW ++ wX4 g (AX 6) AY σY ++ wX0 g (AX 7) AK σK ℓK ++ wH g qH σH) H := hP.sub [12, 24, 25, 26, 27, 28, 29, 30, 31, 16, 17, 18, 19, 20, 21, 22, 23, 14, 15, 13, 0, 1, 2, 3, 4, 5, 6, 7, 8, 9, 10, 11] rfl
                  have hD : va_D Z (wX6 qX AX ++ wX1 g (AX 0) AC σC ++ wX1 g (AX 1) AD σD_243 ++ wX3 g (AX 3) AP σP_237 ++ wX2 (AX 4) σN_242 ++ wX5 g (AX 5) AW (.ref qH) σW ++ wX4 g (AX 6) AY σY ++ wX0 g (AX 7) AK σK ℓK ++ wH g qH σH) := hD.sub [12, 24, 25, 26, 27, 28, 29, 30, 31, 16, 17, 18, 19, 20, 21, 22, 23, 14, 15, 13, 0, 1, 2, 3, 4, 5, 6, 7, 8, 9, 10, 11] (by decide) rfl
                  obtain rfl : r_241 = r_w := hw.symm
                  refine lv_iload hx hb dL_law_1104 (lv_at hl 1 rfl) ?_
                  refine lv_icmp_ne (tgt := 1146) hx hb dL_law_1106 (by decide) (fun c_246 => ?_) (fun c_246 => ?_)
                  · have hF := q_if_f c_246 hF
                    refine lv_iconst (v := 0) hx hb dL_law_1146 (by decide) ?_
                    refine lv_istore (lv' := [(14, .int 0), (5, .int (v5_1 + 1)), (6, .int 0), (13, .int v13_233), (15, .int v15_174), (16, .int v16_1), (0, .ref b), (1, .ref qX), (2, .int v2), (4, .int v4), (7, .int v7), (9, .int v9), (10, .int v10), (11, .int v11)]) hx hb dL_law_1147 hl (by decide) rfl (fun ls hl => ?_)
                    refine lv_iinc (v := v16_1 + 1) (lv' := [(16, .int (v16_1 + 1)), (14, .int 0), (5, .int (v5_1 + 1)), (6, .int 0), (13, .int v13_233), (15, .int v15_174), (0, .ref b), (1, .ref qX), (2, .int v2), (4, .int v4), (7, .int v7), (9, .int v9), (10, .int v10), (11, .int v11)]) hx hb dL_law_1149 hl (k := 5) rfl rfl (by decide) rfl (fun ls hl => ?_)
                    refine lv_goto (tgt := 1010) hx hb dL_law_1152 (by decide) ?_
                    exact ag (v16_1 + 1, v15_174, v5_1 + 1, (0 : Int32), v13_233, (0 : Int32), σP_237, σD_243, σN_242) hF _ _ _ hP hD hS (lv_sub hl [0, 5, 6, 7, 8, 9, 2, 3, 10, 11, 12, 13, 4, 1] rfl)
                  · have hF := q_if_t (by first | exact c_246 | exact Classical.not_not.mp c_246) hF
                    refine lv_aload_n hx hb dL_law_1109 rfl (lv_at hl 6 rfl) ?_
                    refine lv_iload hx hb dL_law_1110 (lv_at hl 11 rfl) ?_
                    refine lv_iconst (v := 1) hx hb dL_law_1112 (by decide) ?_
                    obtain ⟨⟨r_247, σN_248, σD_249⟩, h_250, hF⟩ := q_cl_s hF
                    try dsimp only at hF
                    refine gcV_i (As := [.int v10, .int 1]) (rest := []) (ci := 6) (q := (RX6, TX6, 8)) F hK hN hP hD hS hA (m_X6_behind l g H.size qX AX σN_242 AP σP_237 AD σD_243 AC σC v10 (1 : Int32) r_247 σN_248 σD_249 h_250) gL_law_X6_behind kX6_behind rfl rfl rfl rfl ⟨(Nat.le_of_ble_eq_true rfl), (Nat.le_of_ble_eq_true rfl)⟩ [0, 19, 17, 18, 9, 10, 11, 12, 13, 14, 15, 16, 1, 2, 3, 4, 5, 6, 7, 8] [20, 21, 22, 23, 24, 25, 26, 27, 28, 29, 30, 31] rfl rfl rfl (by decide) rfl rfl rfl rfl rfl hl.1 (Nat.le_of_ble_eq_true rfl) dL_law_1113 ⟨(Nat.le_of_ble_eq_true rfl), (Nat.le_of_ble_eq_true rfl)⟩ (fun r_w u_w H locs hw hP hD hS => ?_)
                    have hP : va_P g.1 vwCl (wX6 qX AX ++ wX1 g (AX 0) AC σC ++ wX1 g (AX 1) AD σD_249 ++ wX3 g (AX 3) AP σP_237 ++ wX2 (AX 4) σN_248 ++ wX5 g (AX 5) AW (.ref qH) σW ++ wX4 g (AX 6) AY σY ++ wX0 g (AX 7) AK σK ℓK ++ wH g qH σH) H := hP.sub [12, 24, 25, 26, 27, 28, 29, 30, 31, 16, 17, 18, 19, 20, 21, 22, 23, 14, 15, 13, 0, 1, 2, 3, 4, 5, 6, 7, 8, 9, 10, 11] rfl
                    have hD : va_D Z (wX6 qX AX ++ wX1 g (AX 0) AC σC ++ wX1 g (AX 1) AD σD_249 ++ wX3 g (AX 3) AP σP_237 ++ wX2 (AX 4) σN_248 ++ wX5 g (AX 5) AW (.ref qH) σW ++ wX4 g (AX 6) AY σY ++ wX0 g (AX 7) AK σK ℓK ++ wH g qH σH) := hD.sub [12, 24, 25, 26, 27, 28, 29, 30, 31, 16, 17, 18, 19, 20, 21, 22, 23, 14, 15, 13, 0, 1, 2, 3, 4, 5, 6, 7, 8, 9, 10, 11] (by decide) rfl
                    obtain rfl : r_247 = r_w := hw.symm
                    refine lv_iload hx hb dL_law_1116 (lv_at hl 2 rfl) ?_
                    refine lv_icmp_ne (tgt := 1146) hx hb dL_law_1118 (by decide) (fun c_252 => ?_) (fun c_252 => ?_)
                    · have hF := q_if_f c_252 hF
                      refine lv_iconst (v := 0) hx hb dL_law_1146 (by decide) ?_
                      refine lv_istore (lv' := [(14, .int 0), (5, .int (v5_1 + 1)), (6, .int 0), (13, .int v13_233), (15, .int v15_174), (16, .int v16_1), (0, .ref b), (1, .ref qX), (2, .int v2), (4, .int v4), (7, .int v7), (9, .int v9), (10, .int v10), (11, .int v11)]) hx hb dL_law_1147 hl (by decide) rfl (fun ls hl => ?_)
                      refine lv_iinc (v := v16_1 + 1) (lv' := [(16, .int (v16_1 + 1)), (14, .int 0), (5, .int (v5_1 + 1)), (6, .int 0), (13, .int v13_233), (15, .int v15_174), (0, .ref b), (1, .ref qX), (2, .int v2), (4, .int v4), (7, .int v7), (9, .int v9), (10, .int v10), (11, .int v11)]) hx hb dL_law_1149 hl (k := 5) rfl rfl (by decide) rfl (fun ls hl => ?_)
                      refine lv_goto (tgt := 1010) hx hb dL_law_1152 (by decide) ?_
                      exact ag (v16_1 + 1, v15_174, v5_1 + 1, (0 : Int32), v13_233, (0 : Int32), σP_237, σD_249, σN_248) hF _ _ _ hP hD hS (lv_sub hl [0, 5, 6, 7, 8, 9, 2, 3, 10, 11, 12, 13, 4, 1] rfl)
                    · have hF := q_if_t (by first | exact c_252 | exact Classical.not_not.mp c_252) hF
                      refine lv_aload_n hx hb dL_law_1121 rfl (lv_at hl 6 rfl) ?_
                      refine lv_iload hx hb dL_law_1122 (lv_at hl 11 rfl) ?_
                      refine lv_iconst (v := 0) hx hb dL_law_1124 (by decide) ?_
                      obtain ⟨⟨r_253, σN_254, σD_255⟩, h_256, hF⟩ := q_cl_s hF
                      try dsimp only at hF
                      refine gcV_i (As := [.int v10, .int 0]) (rest := []) (ci := 6) (q := (RX6, TX6, 8)) F hK hN hP hD hS hA (m_X6_behind l g H.size qX AX σN_248 AP σP_237 AD σD_249 AC σC v10 (0 : Int32) r_253 σN_254 σD_255 h_256) gL_law_X6_behind kX6_behind rfl rfl rfl rfl ⟨(Nat.le_of_ble_eq_true rfl), (Nat.le_of_ble_eq_true rfl)⟩ [0, 19, 17, 18, 9, 10, 11, 12, 13, 14, 15, 16, 1, 2, 3, 4, 5, 6, 7, 8] [20, 21, 22, 23, 24, 25, 26, 27, 28, 29, 30, 31] rfl rfl rfl (by decide) rfl rfl rfl rfl rfl hl.1 (Nat.le_of_ble_eq_true rfl) dL_law_1125 ⟨(Nat.le_of_ble_eq_true rfl), (Nat.le_of_ble_eq_true rfl)⟩ (fun r_w u_w H locs hw hP hD hS => ?_)
                      have hP : va_P g.1 vwCl (wX6 qX AX ++ wX1 g (AX 0) AC σC ++ wX1 g (AX 1) AD σD_255 ++ wX3 g (AX 3) AP σP_237 ++ wX2 (AX 4) σN_254 ++ wX5 g (AX 5) AW (.ref qH) σW ++ wX4 g (AX 6) AY σY ++ wX0 g (AX 7) AK σK ℓK ++ wH g qH σH) H := hP.sub [12, 24, 25, 26, 27, 28, 29, 30, 31, 16, 17, 18, 19, 20, 21, 22, 23, 14, 15, 13, 0, 1, 2, 3, 4, 5, 6, 7, 8, 9, 10, 11] rfl
                      have hD : va_D Z (wX6 qX AX ++ wX1 g (AX 0) AC σC ++ wX1 g (AX 1) AD σD_255 ++ wX3 g (AX 3) AP σP_237 ++ wX2 (AX 4) σN_254 ++ wX5 g (AX 5) AW (.ref qH) σW ++ wX4 g (AX 6) AY σY ++ wX0 g (AX 7) AK σK ℓK ++ wH g qH σH) := hD.sub [12, 24, 25, 26, 27, 28, 29, 30, 31, 16, 17, 18, 19, 20, 21, 22, 23, 14, 15, 13, 0, 1, 2, 3, 4, 5, 6, 7, 8, 9, 10, 11] (by decide) rfl
                      obtain rfl : r_253 = r_w := hw.symm
                      refine lv_iload hx hb dL_law_1128 (lv_at hl 3 rfl) ?_
                      refine lv_if_eq (tgt := 1137) hx hb dL_law_1130 (by decide) (fun c_258 => ?_) (fun c_258 => ?_)
                      · have hF := q_if_t c_258 hF
                        refine lv_bipush (v := (-6)) hx hb dL_law_1137 (by decide) ?_
                        refine lv_icmp_ne (tgt := 1146) hx hb dL_law_1139 (by decide) (fun c_259 => ?_) (fun c_259 => ?_)
                        · have hF := q_if_f c_259 hF
                          refine lv_iconst (v := 0) hx hb dL_law_1146 (by decide) ?_
                          refine lv_istore (lv' := [(14, .int 0), (5, .int (v5_1 + 1)), (6, .int 0), (13, .int v13_233), (15, .int v15_174), (16, .int v16_1), (0, .ref b), (1, .ref qX), (2, .int v2), (4, .int v4), (7, .int v7), (9, .int v9), (10, .int v10), (11, .int v11)]) hx hb dL_law_1147 hl (by decide) rfl (fun ls hl => ?_)
                          refine lv_iinc (v := v16_1 + 1) (lv' := [(16, .int (v16_1 + 1)), (14, .int 0), (5, .int (v5_1 + 1)), (6, .int 0), (13, .int v13_233), (15, .int v15_174), (0, .ref b), (1, .ref qX), (2, .int v2), (4, .int v4), (7, .int v7), (9, .int v9), (10, .int v10), (11, .int v11)]) hx hb dL_law_1149 hl (k := 5) rfl rfl (by decide) rfl (fun ls hl => ?_)
                          refine lv_goto (tgt := 1010) hx hb dL_law_1152 (by decide) ?_
                          exact ag (v16_1 + 1, v15_174, v5_1 + 1, (0 : Int32), v13_233, (0 : Int32), σP_237, σD_255, σN_254) hF _ _ _ hP hD hS (lv_sub hl [0, 5, 6, 7, 8, 9, 2, 3, 10, 11, 12, 13, 4, 1] rfl)
                        · have hF := q_if_t (by first | exact c_259 | exact Classical.not_not.mp c_259) hF
                          refine lv_iconst (v := 1) hx hb dL_law_1142 (by decide) ?_
                          refine lv_goto (tgt := 1147) hx hb dL_law_1143 (by decide) ?_
                          refine lv_istore (lv' := [(14, .int 1), (5, .int (v5_1 + 1)), (6, .int 0), (13, .int v13_233), (15, .int v15_174), (16, .int v16_1), (0, .ref b), (1, .ref qX), (2, .int v2), (4, .int v4), (7, .int v7), (9, .int v9), (10, .int v10), (11, .int v11)]) hx hb dL_law_1147 hl (by decide) rfl (fun ls hl => ?_)
                          refine lv_iinc (v := v16_1 + 1) (lv' := [(16, .int (v16_1 + 1)), (14, .int 1), (5, .int (v5_1 + 1)), (6, .int 0), (13, .int v13_233), (15, .int v15_174), (0, .ref b), (1, .ref qX), (2, .int v2), (4, .int v4), (7, .int v7), (9, .int v9), (10, .int v10), (11, .int v11)]) hx hb dL_law_1149 hl (k := 5) rfl rfl (by decide) rfl (fun ls hl => ?_)
                          refine lv_goto (tgt := 1010) hx hb dL_law_1152 (by decide) ?_
                          exact ag (v16_1 + 1, v15_174, v5_1 + 1, (0 : Int32), v13_233, (1 : Int32), σP_237, σD_255, σN_254) hF _ _ _ hP hD hS (lv_sub hl [0, 5, 6, 7, 8, 9, 2, 3, 10, 11, 12, 13, 4, 1] rfl)
                      · have hF := q_if_f c_258 hF
                        refine lv_iconst (v := 3) hx hb dL_law_1133 (by decide) ?_
                        refine lv_goto (tgt := 1139) hx hb dL_law_1134 (by decide) ?_
                        refine lv_icmp_ne (tgt := 1146) hx hb dL_law_1139 (by decide) (fun c_260 => ?_) (fun c_260 => ?_)
                        · have hF := q_if_f c_260 hF
                          refine lv_iconst (v := 0) hx hb dL_law_1146 (by decide) ?_
                          refine lv_istore (lv' := [(14, .int 0), (5, .int (v5_1 + 1)), (6, .int 0), (13, .int v13_233), (15, .int v15_174), (16, .int v16_1), (0, .ref b), (1, .ref qX), (2, .int v2), (4, .int v4), (7, .int v7), (9, .int v9), (10, .int v10), (11, .int v11)]) hx hb dL_law_1147 hl (by decide) rfl (fun ls hl => ?_)
                          refine lv_iinc (v := v16_1 + 1) (lv' := [(16, .int (v16_1 + 1)), (14, .int 0), (5, .int (v5_1 + 1)), (6, .int 0), (13, .int v13_233), (15, .int v15_174), (0, .ref b), (1, .ref qX), (2, .int v2), (4, .int v4), (7, .int v7), (9, .int v9), (10, .int v10), (11, .int v11)]) hx hb dL_law_1149 hl (k := 5) rfl rfl (by decide) rfl (fun ls hl => ?_)
                          refine lv_goto (tgt := 1010) hx hb dL_law_1152 (by decide) ?_
                          exact ag (v16_1 + 1, v15_174, v5_1 + 1, (0 : Int32), v13_233, (0 : Int32), σP_237, σD_255, σN_254) hF _ _ _ hP hD hS (lv_sub hl [0, 5, 6, 7, 8, 9, 2, 3, 10, 11, 12, 13, 4, 1] rfl)
                        · have hF := q_if_t (by first | exact c_260 | exact Classical.not_not.mp c_260) hF
                          refine lv_iconst (v := 1) hx hb dL_law_1142 (by decide) ?_
                          refine lv_goto (tgt := 1147) hx hb dL_law_1143 (by decide) ?_
                          refine lv_istore (lv' := [(14, .int 1), (5, .int (v5_1 + 1)), (6, .int 0), (13, .int v13_233), (15, .int v15_174), (16, .int v16_1), (0, .ref b), (1, .ref qX), (2, .int v2), (4, .int v4), (7, .int v7), (9, .int v9), (10, .int v10), (11, .int v11)]) hx hb dL_law_1147 hl (by decide) rfl (fun ls hl => ?_)
                          refine lv_iinc (v := v16_1 + 1) (lv' := [(16, .int (v16_1 + 1)), (14, .int 1), (5, .int (v5_1 + 1)), (6, .int 0), (13, .int v13_233), (15, .int v15_174), (0, .ref b), (1, .ref qX), (2, .int v2), (4, .int v4), (7, .int v7), (9, .int v9), (10, .int v10), (11, .int v11)]) hx hb dL_law_1149 hl (k := 5) rfl rfl (by decide) rfl (fun ls hl => ?_)
                          refine lv_goto (tgt := 1010) hx hb dL_law_1152 (by decide) ?_
                          exact ag (v16_1 + 1, v15_174, v5_1 + 1, (0 : Int32), v13_233, (1 : Int32), σP_237, σD_255, σN_254) hF _ _ _ hP hD hS (lv_sub hl [0, 5, 6, 7, 8, 9, 2, 3, 10, 11, 12, 13, 4, 1] rfl)
              · have hF := q_if_f c_235 hF
                refine lv_iload hx hb dL_law_1075 (lv_at hl 8 rfl) ?_
                refine lv_iconst (v := 5) hx hb dL_law_1077 (by decide) ?_
                refine lv_isub hx hb dL_law_1078 ?_
                refine lv_goto (tgt := 1083) hx hb dL_law_1079 (by decide) ?_
                obtain ⟨v6_261, e_262, hF⟩ := q_bd_s hF
                refine gtop e_262 ?_
                refine lv_istore (lv' := [(6, .int v6_261), (13, .int v13_233), (15, .int v15_174), (16, .int v16_1), (0, .ref b), (1, .ref qX), (2, .int v2), (4, .int v4), (5, .int v5_1), (7, .int v7), (9, .int v9), (10, .int v10), (11, .int v11), (14, .int v14_1)]) hx hb dL_law_1083 hl (by decide) rfl (fun ls hl => ?_)
                refine lv_iinc (v := v5_1 + 1) (lv' := [(5, .int (v5_1 + 1)), (6, .int v6_261), (13, .int v13_233), (15, .int v15_174), (16, .int v16_1), (0, .ref b), (1, .ref qX), (2, .int v2), (4, .int v4), (7, .int v7), (9, .int v9), (10, .int v10), (11, .int v11), (14, .int v14_1)]) hx hb dL_law_1085 hl (k := 8) rfl rfl (by decide) rfl (fun ls hl => ?_)
                refine lv_aload_n hx hb dL_law_1088 rfl (lv_at hl 6 rfl) ?_
                refine lv_bipush (v := 42) hx hb dL_law_1089 (by decide) ?_
                obtain ⟨⟨r_263, σP_264⟩, h_265, hF⟩ := q_cl_s hF
                try dsimp only at hF
                refine gcV_i (As := [.int 42]) (rest := []) (ci := 6) (q := (RX6, TX6, 8)) F hK hN hP hD hS hA (m_X6_say l g H.size qX AX AP σP_1 (42 : Int32) r_263 σP_264 h_265) gL_law_X6_say kX6_say rfl rfl rfl rfl ⟨(Nat.le_of_ble_eq_true rfl), (Nat.le_of_ble_eq_true rfl)⟩ [0, 17, 18] [1, 2, 3, 4, 5, 6, 7, 8, 9, 10, 11, 12, 13, 14, 15, 16, 19, 20, 21, 22, 23, 24, 25, 26, 27, 28, 29, 30, 31] rfl rfl rfl (by decide) rfl rfl rfl rfl rfl hl.1 (Nat.le_of_ble_eq_true rfl) dL_law_1091 ⟨(Nat.le_of_ble_eq_true rfl), (Nat.le_of_ble_eq_true rfl)⟩ (fun r_w u_w H locs hw hP hD hS => ?_)
                have hP : va_P g.1 vwCl (wX6 qX AX ++ wX1 g (AX 0) AC σC ++ wX1 g (AX 1) AD σD_1 ++ wX3 g (AX 3) AP σP_264 ++ wX2 (AX 4) σN_1 ++ wX5 g (AX 5) AW (.ref qH) σW ++ wX4 g (AX 6) AY σY ++ wX0 g (AX 7) AK σK ℓK ++ wH g qH σH) H := hP.sub [29, 0, 1, 2, 3, 4, 5, 6, 7, 8, 9, 10, 11, 12, 13, 14, 15, 30, 31, 16, 17, 18, 19, 20, 21, 22, 23, 24, 25, 26, 27, 28] rfl
                have hD : va_D Z (wX6 qX AX ++ wX1 g (AX 0) AC σC ++ wX1 g (AX 1) AD σD_1 ++ wX3 g (AX 3) AP σP_264 ++ wX2 (AX 4) σN_1 ++ wX5 g (AX 5) AW (.ref qH) σW ++ wX4 g (AX 6) AY σY ++ wX0 g (AX 7) AK σK ℓK ++ wH g qH σH) := hD.sub [29, 0, 1, 2, 3, 4, 5, 6, 7, 8, 9, 10, 11, 12, 13, 14, 15, 30, 31, 16, 17, 18, 19, 20, 21, 22, 23, 24, 25, 26, 27, 28] (by decide) rfl
                obtain rfl : r_263 = r_w := hw.symm
                refine lv_iload hx hb dL_law_1094 (lv_at hl 0 rfl) ?_
                refine lv_icmp_ne (tgt := 1146) hx hb dL_law_1096 (by decide) (fun c_267 => ?_) (fun c_267 => ?_)
                · have hF := q_if_f c_267 hF
                  refine lv_iconst (v := 0) hx hb dL_law_1146 (by decide) ?_
                  refine lv_istore (lv' := [(14, .int 0), (5, .int (v5_1 + 1)), (6, .int v6_261), (13, .int v13_233), (15, .int v15_174), (16, .int v16_1), (0, .ref b), (1, .ref qX), (2, .int v2), (4, .int v4), (7, .int v7), (9, .int v9), (10, .int v10), (11, .int v11)]) hx hb dL_law_1147 hl (by decide) rfl (fun ls hl => ?_)
                  refine lv_iinc (v := v16_1 + 1) (lv' := [(16, .int (v16_1 + 1)), (14, .int 0), (5, .int (v5_1 + 1)), (6, .int v6_261), (13, .int v13_233), (15, .int v15_174), (0, .ref b), (1, .ref qX), (2, .int v2), (4, .int v4), (7, .int v7), (9, .int v9), (10, .int v10), (11, .int v11)]) hx hb dL_law_1149 hl (k := 5) rfl rfl (by decide) rfl (fun ls hl => ?_)
                  refine lv_goto (tgt := 1010) hx hb dL_law_1152 (by decide) ?_
                  exact ag (v16_1 + 1, v15_174, v5_1 + 1, v6_261, v13_233, (0 : Int32), σP_264, σD_1, σN_1) hF _ _ _ hP hD hS (lv_sub hl [0, 5, 6, 7, 8, 9, 2, 3, 10, 11, 12, 13, 4, 1] rfl)
                · have hF := q_if_t (by first | exact c_267 | exact Classical.not_not.mp c_267) hF
                  refine lv_aload_n hx hb dL_law_1099 rfl (lv_at hl 6 rfl) ?_
                  refine lv_iconst (v := 1) hx hb dL_law_1100 (by decide) ?_
                  obtain ⟨⟨r_268, σN_269, σD_270⟩, h_271, hF⟩ := q_cl_s hF
                  try dsimp only at hF
                  refine gcV_i (As := [.int 1]) (rest := []) (ci := 6) (q := (RX6, TX6, 8)) F hK hN hP hD hS hA (m_X6_pan l g H.size qX AX σN_1 AP σP_264 AD σD_1 AC σC (1 : Int32) r_268 σN_269 σD_270 h_271) gL_law_X6_pan kX6_pan rfl rfl rfl rfl ⟨(Nat.le_of_ble_eq_true rfl), (Nat.le_of_ble_eq_true rfl)⟩ [0, 19, 17, 18, 9, 10, 11, 12, 13, 14, 15, 16, 1, 2, 3, 4, 5, 6, 7, 8] [20, 21, 22, 23, 24, 25, 26, 27, 28, 29, 30, 31] rfl rfl rfl (by decide) rfl rfl rfl rfl rfl hl.1 (Nat.le_of_ble_eq_true rfl) dL_law_1101 ⟨(Nat.le_of_ble_eq_true rfl), (Nat.le_of_ble_eq_true rfl)⟩ (fun r_w u_w H locs hw hP hD hS => ?_)
                  have hP : va_P g.1 vwCl (wX6 qX AX ++ wX1 g (AX 0) AC σC ++ wX1 g (AX 1) AD σD_270 ++ wX3 g (AX 3) AP σP_264 ++ wX2 (AX 4) σN_269 ++ wX5 g (AX 5) AW (.ref qH) σW ++ wX4 g (AX 6) AY σY ++ wX0 g (AX 7) AK σK ℓK ++ wH g qH σH) H := hP.sub [12, 24, 25, 26, 27, 28, 29, 30, 31, 16, 17, 18, 19, 20, 21, 22, 23, 14, 15, 13, 0, 1, 2, 3, 4, 5, 6, 7, 8, 9, 10, 11] rfl
                  have hD : va_D Z (wX6 qX AX ++ wX1 g (AX 0) AC σC ++ wX1 g (AX 1) AD σD_270 ++ wX3 g (AX 3) AP σP_264 ++ wX2 (AX 4) σN_269 ++ wX5 g (AX 5) AW (.ref qH) σW ++ wX4 g (AX 6) AY σY ++ wX0 g (AX 7) AK σK ℓK ++ wH g qH σH) := hD.sub [12, 24, 25, 26, 27, 28, 29, 30, 31, 16, 17, 18, 19, 20, 21, 22, 23, 14, 15, 13, 0, 1, 2, 3, 4, 5, 6, 7, 8, 9, 10, 11] (by decide) rfl
                  obtain rfl : r_268 = r_w := hw.symm
                  refine lv_iload hx hb dL_law_1104 (lv_at hl 1 rfl) ?_
                  refine lv_icmp_ne (tgt := 1146) hx hb dL_law_1106 (by decide) (fun c_273 => ?_) (fun c_273 => ?_)
                  · have hF := q_if_f c_273 hF
                    refine lv_iconst (v := 0) hx hb dL_law_1146 (by decide) ?_
                    refine lv_istore (lv' := [(14, .int 0), (5, .int (v5_1 + 1)), (6, .int v6_261), (13, .int v13_233), (15, .int v15_174), (16, .int v16_1), (0, .ref b), (1, .ref qX), (2, .int v2), (4, .int v4), (7, .int v7), (9, .int v9), (10, .int v10), (11, .int v11)]) hx hb dL_law_1147 hl (by decide) rfl (fun ls hl => ?_)
                    refine lv_iinc (v := v16_1 + 1) (lv' := [(16, .int (v16_1 + 1)), (14, .int 0), (5, .int (v5_1 + 1)), (6, .int v6_261), (13, .int v13_233), (15, .int v15_174), (0, .ref b), (1, .ref qX), (2, .int v2), (4, .int v4), (7, .int v7), (9, .int v9), (10, .int v10), (11, .int v11)]) hx hb dL_law_1149 hl (k := 5) rfl rfl (by decide) rfl (fun ls hl => ?_)
                    refine lv_goto (tgt := 1010) hx hb dL_law_1152 (by decide) ?_
                    exact ag (v16_1 + 1, v15_174, v5_1 + 1, v6_261, v13_233, (0 : Int32), σP_264, σD_270, σN_269) hF _ _ _ hP hD hS (lv_sub hl [0, 5, 6, 7, 8, 9, 2, 3, 10, 11, 12, 13, 4, 1] rfl)
                  · have hF := q_if_t (by first | exact c_273 | exact Classical.not_not.mp c_273) hF
                    refine lv_aload_n hx hb dL_law_1109 rfl (lv_at hl 6 rfl) ?_
                    refine lv_iload hx hb dL_law_1110 (lv_at hl 11 rfl) ?_
                    refine lv_iconst (v := 1) hx hb dL_law_1112 (by decide) ?_
                    obtain ⟨⟨r_274, σN_275, σD_276⟩, h_277, hF⟩ := q_cl_s hF
                    try dsimp only at hF
                    refine gcV_i (As := [.int v10, .int 1]) (rest := []) (ci := 6) (q := (RX6, TX6, 8)) F hK hN hP hD hS hA (m_X6_behind l g H.size qX AX σN_269 AP σP_264 AD σD_270 AC σC v10 (1 : Int32) r_274 σN_275 σD_276 h_277) gL_law_X6_behind kX6_behind rfl rfl rfl rfl ⟨(Nat.le_of_ble_eq_true rfl), (Nat.le_of_ble_eq_true rfl)⟩ [0, 19, 17, 18, 9, 10, 11, 12, 13, 14, 15, 16, 1, 2, 3, 4, 5, 6, 7, 8] [20, 21, 22, 23, 24, 25, 26, 27, 28, 29, 30, 31] rfl rfl rfl (by decide) rfl rfl rfl rfl rfl hl.1 (Nat.le_of_ble_eq_true rfl) dL_law_1113 ⟨(Nat.le_of_ble_eq_true rfl), (Nat.le_of_ble_eq_true rfl)⟩ (fun r_w u_w H locs hw hP hD hS => ?_)
                    have hP : va_P g.1 vwCl (wX6 qX AX ++ wX1 g (AX 0) AC σC ++ wX1 g (AX 1) AD σD_276 ++ wX3 g (AX 3) AP σP_264 ++ wX2 (AX 4) σN_275 ++ wX5 g (AX 5) AW (.ref qH) σW ++ wX4 g (AX 6) AY σY ++ wX0 g (AX 7) AK σK ℓK ++ wH g qH σH) H := hP.sub [12, 24, 25, 26, 27, 28, 29, 30, 31, 16, 17, 18, 19, 20, 21, 22, 23, 14, 15, 13, 0, 1, 2, 3, 4, 5, 6, 7, 8, 9, 10, 11] rfl
                    have hD : va_D Z (wX6 qX AX ++ wX1 g (AX 0) AC σC ++ wX1 g (AX 1) AD σD_276 ++ wX3 g (AX 3) AP σP_264 ++ wX2 (AX 4) σN_275 ++ wX5 g (AX 5) AW (.ref qH) σW ++ wX4 g (AX 6) AY σY ++ wX0 g (AX 7) AK σK ℓK ++ wH g qH σH) := hD.sub [12, 24, 25, 26, 27, 28, 29, 30, 31, 16, 17, 18, 19, 20, 21, 22, 23, 14, 15, 13, 0, 1, 2, 3, 4, 5, 6, 7, 8, 9, 10, 11] (by decide) rfl
                    obtain rfl : r_274 = r_w := hw.symm
                    refine lv_iload hx hb dL_law_1116 (lv_at hl 2 rfl) ?_
                    refine lv_icmp_ne (tgt := 1146) hx hb dL_law_1118 (by decide) (fun c_279 => ?_) (fun c_279 => ?_)
                    · have hF := q_if_f c_279 hF
                      refine lv_iconst (v := 0) hx hb dL_law_1146 (by decide) ?_
                      refine lv_istore (lv' := [(14, .int 0), (5, .int (v5_1 + 1)), (6, .int v6_261), (13, .int v13_233), (15, .int v15_174), (16, .int v16_1), (0, .ref b), (1, .ref qX), (2, .int v2), (4, .int v4), (7, .int v7), (9, .int v9), (10, .int v10), (11, .int v11)]) hx hb dL_law_1147 hl (by decide) rfl (fun ls hl => ?_)
                      refine lv_iinc (v := v16_1 + 1) (lv' := [(16, .int (v16_1 + 1)), (14, .int 0), (5, .int (v5_1 + 1)), (6, .int v6_261), (13, .int v13_233), (15, .int v15_174), (0, .ref b), (1, .ref qX), (2, .int v2), (4, .int v4), (7, .int v7), (9, .int v9), (10, .int v10), (11, .int v11)]) hx hb dL_law_1149 hl (k := 5) rfl rfl (by decide) rfl (fun ls hl => ?_)
                      refine lv_goto (tgt := 1010) hx hb dL_law_1152 (by decide) ?_
                      exact ag (v16_1 + 1, v15_174, v5_1 + 1, v6_261, v13_233, (0 : Int32), σP_264, σD_276, σN_275) hF _ _ _ hP hD hS (lv_sub hl [0, 5, 6, 7, 8, 9, 2, 3, 10, 11, 12, 13, 4, 1] rfl)
                    · have hF := q_if_t (by first | exact c_279 | exact Classical.not_not.mp c_279) hF
                      refine lv_aload_n hx hb dL_law_1121 rfl (lv_at hl 6 rfl) ?_
                      refine lv_iload hx hb dL_law_1122 (lv_at hl 11 rfl) ?_
                      refine lv_iconst (v := 0) hx hb dL_law_1124 (by decide) ?_
                      obtain ⟨⟨r_280, σN_281, σD_282⟩, h_283, hF⟩ := q_cl_s hF
                      try dsimp only at hF
                      refine gcV_i (As := [.int v10, .int 0]) (rest := []) (ci := 6) (q := (RX6, TX6, 8)) F hK hN hP hD hS hA (m_X6_behind l g H.size qX AX σN_275 AP σP_264 AD σD_276 AC σC v10 (0 : Int32) r_280 σN_281 σD_282 h_283) gL_law_X6_behind kX6_behind rfl rfl rfl rfl ⟨(Nat.le_of_ble_eq_true rfl), (Nat.le_of_ble_eq_true rfl)⟩ [0, 19, 17, 18, 9, 10, 11, 12, 13, 14, 15, 16, 1, 2, 3, 4, 5, 6, 7, 8] [20, 21, 22, 23, 24, 25, 26, 27, 28, 29, 30, 31] rfl rfl rfl (by decide) rfl rfl rfl rfl rfl hl.1 (Nat.le_of_ble_eq_true rfl) dL_law_1125 ⟨(Nat.le_of_ble_eq_true rfl), (Nat.le_of_ble_eq_true rfl)⟩ (fun r_w u_w H locs hw hP hD hS => ?_)
                      have hP : va_P g.1 vwCl (wX6 qX AX ++ wX1 g (AX 0) AC σC ++ wX1 g (AX 1) AD σD_282 ++ wX3 g (AX 3) AP σP_264 ++ wX2 (AX 4) σN_281 ++ wX5 g (AX 5) AW (.ref qH) σW ++ wX4 g (AX 6) AY σY ++ wX0 g (AX 7) AK σK ℓK ++ wH g qH σH) H := hP.sub [12, 24, 25, 26, 27, 28, 29, 30, 31, 16, 17, 18, 19, 20, 21, 22, 23, 14, 15, 13, 0, 1, 2, 3, 4, 5, 6, 7, 8, 9, 10, 11] rfl
                      have hD : va_D Z (wX6 qX AX ++ wX1 g (AX 0) AC σC ++ wX1 g (AX 1) AD σD_282 ++ wX3 g (AX 3) AP σP_264 ++ wX2 (AX 4) σN_281 ++ wX5 g (AX 5) AW (.ref qH) σW ++ wX4 g (AX 6) AY σY ++ wX0 g (AX 7) AK σK ℓK ++ wH g qH σH) := hD.sub [12, 24, 25, 26, 27, 28, 29, 30, 31, 16, 17, 18, 19, 20, 21, 22, 23, 14, 15, 13, 0, 1, 2, 3, 4, 5, 6, 7, 8, 9, 10, 11] (by decide) rfl
                      obtain rfl : r_280 = r_w := hw.symm
                      refine lv_iload hx hb dL_law_1128 (lv_at hl 3 rfl) ?_
                      refine lv_if_eq (tgt := 1137) hx hb dL_law_1130 (by decide) (fun c_285 => ?_) (fun c_285 => ?_)
                      · have hF := q_if_t c_285 hF
                        refine lv_bipush (v := (-6)) hx hb dL_law_1137 (by decide) ?_
                        refine lv_icmp_ne (tgt := 1146) hx hb dL_law_1139 (by decide) (fun c_286 => ?_) (fun c_286 => ?_)
                        · have hF := q_if_f c_286 hF
                          refine lv_iconst (v := 0) hx hb dL_law_1146 (by decide) ?_
                          refine lv_istore (lv' := [(14, .int 0), (5, .int (v5_1 + 1)), (6, .int v6_261), (13, .int v13_233), (15, .int v15_174), (16, .int v16_1), (0, .ref b), (1, .ref qX), (2, .int v2), (4, .int v4), (7, .int v7), (9, .int v9), (10, .int v10), (11, .int v11)]) hx hb dL_law_1147 hl (by decide) rfl (fun ls hl => ?_)
                          refine lv_iinc (v := v16_1 + 1) (lv' := [(16, .int (v16_1 + 1)), (14, .int 0), (5, .int (v5_1 + 1)), (6, .int v6_261), (13, .int v13_233), (15, .int v15_174), (0, .ref b), (1, .ref qX), (2, .int v2), (4, .int v4), (7, .int v7), (9, .int v9), (10, .int v10), (11, .int v11)]) hx hb dL_law_1149 hl (k := 5) rfl rfl (by decide) rfl (fun ls hl => ?_)
                          refine lv_goto (tgt := 1010) hx hb dL_law_1152 (by decide) ?_
                          exact ag (v16_1 + 1, v15_174, v5_1 + 1, v6_261, v13_233, (0 : Int32), σP_264, σD_282, σN_281) hF _ _ _ hP hD hS (lv_sub hl [0, 5, 6, 7, 8, 9, 2, 3, 10, 11, 12, 13, 4, 1] rfl)
                        · have hF := q_if_t (by first | exact c_286 | exact Classical.not_not.mp c_286) hF
                          refine lv_iconst (v := 1) hx hb dL_law_1142 (by decide) ?_
                          refine lv_goto (tgt := 1147) hx hb dL_law_1143 (by decide) ?_
                          refine lv_istore (lv' := [(14, .int 1), (5, .int (v5_1 + 1)), (6, .int v6_261), (13, .int v13_233), (15, .int v15_174), (16, .int v16_1), (0, .ref b), (1, .ref qX), (2, .int v2), (4, .int v4), (7, .int v7), (9, .int v9), (10, .int v10), (11, .int v11)]) hx hb dL_law_1147 hl (by decide) rfl (fun ls hl => ?_)
                          refine lv_iinc (v := v16_1 + 1) (lv' := [(16, .int (v16_1 + 1)), (14, .int 1), (5, .int (v5_1 + 1)), (6, .int v6_261), (13, .int v13_233), (15, .int v15_174), (0, .ref b), (1, .ref qX), (2, .int v2), (4, .int v4), (7, .int v7), (9, .int v9), (10, .int v10), (11, .int v11)]) hx hb dL_law_1149 hl (k := 5) rfl rfl (by decide) rfl (fun ls hl => ?_)
                          refine lv_goto (tgt := 1010) hx hb dL_law_1152 (by decide) ?_
                          exact ag (v16_1 + 1, v15_174, v5_1 + 1, v6_261, v13_233, (1 : Int32), σP_264, σD_282, σN_281) hF _ _ _ hP hD hS (lv_sub hl [0, 5, 6, 7, 8, 9, 2, 3, 10, 11, 12, 13, 4, 1] rfl)
                      · have hF := q_if_f c_285 hF
                        refine lv_iconst (v := 3) hx hb dL_law_1133 (by decide) ?_
                        refine lv_goto (tgt := 1139) hx hb dL_law_1134 (by decide) ?_
                        refine lv_icmp_ne (tgt := 1146) hx hb dL_law_1139 (by decide) (fun c_287 => ?_) (fun c_287 => ?_)
                        · have hF := q_if_f c_287 hF
                          refine lv_iconst (v := 0) hx hb dL_law_1146 (by decide) ?_
                          refine lv_istore (lv' := [(14, .int 0), (5, .int (v5_1 + 1)), (6, .int v6_261), (13, .int v13_233), (15, .int v15_174), (16, .int v16_1), (0, .ref b), (1, .ref qX), (2, .int v2), (4, .int v4), (7, .int v7), (9, .int v9), (10, .int v10), (11, .int v11)]) hx hb dL_law_1147 hl (by decide) rfl (fun ls hl => ?_)
                          refine lv_iinc (v := v16_1 + 1) (lv' := [(16, .int (v16_1 + 1)), (14, .int 0), (5, .int (v5_1 + 1)), (6, .int v6_261), (13, .int v13_233), (15, .int v15_174), (0, .ref b), (1, .ref qX), (2, .int v2), (4, .int v4), (7, .int v7), (9, .int v9), (10, .int v10), (11, .int v11)]) hx hb dL_law_1149 hl (k := 5) rfl rfl (by decide) rfl (fun ls hl => ?_)
                          refine lv_goto (tgt := 1010) hx hb dL_law_1152 (by decide) ?_
                          exact ag (v16_1 + 1, v15_174, v5_1 + 1, v6_261, v13_233, (0 : Int32), σP_264, σD_282, σN_281) hF _ _ _ hP hD hS (lv_sub hl [0, 5, 6, 7, 8, 9, 2, 3, 10, 11, 12, 13, 4, 1] rfl)
                        · have hF := q_if_t (by first | exact c_287 | exact Classical.not_not.mp c_287) hF
                          refine lv_iconst (v := 1) hx hb dL_law_1142 (by decide) ?_
                          refine lv_goto (tgt := 1147) hx hb dL_law_1143 (by decide) ?_
                          refine lv_istore (lv' := [(14, .int 1), (5, .int (v5_1 + 1)), (6, .int v6_261), (13, .int v13_233), (15, .int v15_174), (16, .int v16_1), (0, .ref b), (1, .ref qX), (2, .int v2), (4, .int v4), (7, .int v7), (9, .int v9), (10, .int v10), (11, .int v11)]) hx hb dL_law_1147 hl (by decide) rfl (fun ls hl => ?_)
                          refine lv_iinc (v := v16_1 + 1) (lv' := [(16, .int (v16_1 + 1)), (14, .int 1), (5, .int (v5_1 + 1)), (6, .int v6_261), (13, .int v13_233), (15, .int v15_174), (0, .ref b), (1, .ref qX), (2, .int v2), (4, .int v4), (7, .int v7), (9, .int v9), (10, .int v10), (11, .int v11)]) hx hb dL_law_1149 hl (k := 5) rfl rfl (by decide) rfl (fun ls hl => ?_)
                          refine lv_goto (tgt := 1010) hx hb dL_law_1152 (by decide) ?_
                          exact ag (v16_1 + 1, v15_174, v5_1 + 1, v6_261, v13_233, (1 : Int32), σP_264, σD_282, σN_281) hF _ _ _ hP hD hS (lv_sub hl [0, 5, 6, 7, 8, 9, 2, 3, 10, 11, 12, 13, 4, 1] rfl)
            · have hF := q_if_t (by first | exact c_232 | exact Classical.not_not.mp c_232) hF
              refine lv_iconst (v := 0) hx hb dL_law_1061 (by decide) ?_
              refine lv_goto (tgt := 1066) hx hb dL_law_1062 (by decide) ?_
              refine lv_iadd hx hb dL_law_1066 ?_
              obtain ⟨v13_288, e_289, hF⟩ := q_bd_s hF
              refine gtop e_289 ?_
              refine lv_istore (lv' := [(13, .int v13_288), (15, .int v15_174), (16, .int v16_1), (0, .ref b), (1, .ref qX), (2, .int v2), (4, .int v4), (5, .int v5_1), (6, .int v6_1), (7, .int v7), (9, .int v9), (10, .int v10), (11, .int v11), (14, .int v14_1)]) hx hb dL_law_1067 hl (by decide) rfl (fun ls hl => ?_)
              refine lv_iload hx hb dL_law_1069 (lv_at hl 8 rfl) ?_
              refine lv_iconst (v := 5) hx hb dL_law_1071 (by decide) ?_
              refine lv_icmp_le (tgt := 1082) hx hb dL_law_1072 (by decide) (fun c_290 => ?_) (fun c_290 => ?_)
              · have hF := q_if_t c_290 hF
                refine lv_iconst (v := 0) hx hb dL_law_1082 (by decide) ?_
                refine lv_istore (lv' := [(6, .int 0), (13, .int v13_288), (15, .int v15_174), (16, .int v16_1), (0, .ref b), (1, .ref qX), (2, .int v2), (4, .int v4), (5, .int v5_1), (7, .int v7), (9, .int v9), (10, .int v10), (11, .int v11), (14, .int v14_1)]) hx hb dL_law_1083 hl (by decide) rfl (fun ls hl => ?_)
                refine lv_iinc (v := v5_1 + 1) (lv' := [(5, .int (v5_1 + 1)), (6, .int 0), (13, .int v13_288), (15, .int v15_174), (16, .int v16_1), (0, .ref b), (1, .ref qX), (2, .int v2), (4, .int v4), (7, .int v7), (9, .int v9), (10, .int v10), (11, .int v11), (14, .int v14_1)]) hx hb dL_law_1085 hl (k := 8) rfl rfl (by decide) rfl (fun ls hl => ?_)
                refine lv_aload_n hx hb dL_law_1088 rfl (lv_at hl 6 rfl) ?_
                refine lv_bipush (v := 42) hx hb dL_law_1089 (by decide) ?_
                obtain ⟨⟨r_291, σP_292⟩, h_293, hF⟩ := q_cl_s hF
                try dsimp only at hF
                refine gcV_i (As := [.int 42]) (rest := []) (ci := 6) (q := (RX6, TX6, 8)) F hK hN hP hD hS hA (m_X6_say l g H.size qX AX AP σP_1 (42 : Int32) r_291 σP_292 h_293) gL_law_X6_say kX6_say rfl rfl rfl rfl ⟨(Nat.le_of_ble_eq_true rfl), (Nat.le_of_ble_eq_true rfl)⟩ [0, 17, 18] [1, 2, 3, 4, 5, 6, 7, 8, 9, 10, 11, 12, 13, 14, 15, 16, 19, 20, 21, 22, 23, 24, 25, 26, 27, 28, 29, 30, 31] rfl rfl rfl (by decide) rfl rfl rfl rfl rfl hl.1 (Nat.le_of_ble_eq_true rfl) dL_law_1091 ⟨(Nat.le_of_ble_eq_true rfl), (Nat.le_of_ble_eq_true rfl)⟩ (fun r_w u_w H locs hw hP hD hS => ?_)
                have hP : va_P g.1 vwCl (wX6 qX AX ++ wX1 g (AX 0) AC σC ++ wX1 g (AX 1) AD σD_1 ++ wX3 g (AX 3) AP σP_292 ++ wX2 (AX 4) σN_1 ++ wX5 g (AX 5) AW (.ref qH) σW ++ wX4 g (AX 6) AY σY ++ wX0 g (AX 7) AK σK ℓK ++ wH g qH σH) H := hP.sub [29, 0, 1, 2, 3, 4, 5, 6, 7, 8, 9, 10, 11, 12, 13, 14, 15, 30, 31, 16, 17, 18, 19, 20, 21, 22, 23, 24, 25, 26, 27, 28] rfl
                have hD : va_D Z (wX6 qX AX ++ wX1 g (AX 0) AC σC ++ wX1 g (AX 1) AD σD_1 ++ wX3 g (AX 3) AP σP_292 ++ wX2 (AX 4) σN_1 ++ wX5 g (AX 5) AW (.ref qH) σW ++ wX4 g (AX 6) AY σY ++ wX0 g (AX 7) AK σK ℓK ++ wH g qH σH) := hD.sub [29, 0, 1, 2, 3, 4, 5, 6, 7, 8, 9, 10, 11, 12, 13, 14, 15, 30, 31, 16, 17, 18, 19, 20, 21, 22, 23, 24, 25, 26, 27, 28] (by decide) rfl
                obtain rfl : r_291 = r_w := hw.symm
                refine lv_iload hx hb dL_law_1094 (lv_at hl 0 rfl) ?_
                refine lv_icmp_ne (tgt := 1146) hx hb dL_law_1096 (by decide) (fun c_295 => ?_) (fun c_295 => ?_)
                · have hF := q_if_f c_295 hF
                  refine lv_iconst (v := 0) hx hb dL_law_1146 (by decide) ?_
                  refine lv_istore (lv' := [(14, .int 0), (5, .int (v5_1 + 1)), (6, .int 0), (13, .int v13_288), (15, .int v15_174), (16, .int v16_1), (0, .ref b), (1, .ref qX), (2, .int v2), (4, .int v4), (7, .int v7), (9, .int v9), (10, .int v10), (11, .int v11)]) hx hb dL_law_1147 hl (by decide) rfl (fun ls hl => ?_)
                  refine lv_iinc (v := v16_1 + 1) (lv' := [(16, .int (v16_1 + 1)), (14, .int 0), (5, .int (v5_1 + 1)), (6, .int 0), (13, .int v13_288), (15, .int v15_174), (0, .ref b), (1, .ref qX), (2, .int v2), (4, .int v4), (7, .int v7), (9, .int v9), (10, .int v10), (11, .int v11)]) hx hb dL_law_1149 hl (k := 5) rfl rfl (by decide) rfl (fun ls hl => ?_)
                  refine lv_goto (tgt := 1010) hx hb dL_law_1152 (by decide) ?_
                  exact ag (v16_1 + 1, v15_174, v5_1 + 1, (0 : Int32), v13_288, (0 : Int32), σP_292, σD_1, σN_1) hF _ _ _ hP hD hS (lv_sub hl [0, 5, 6, 7, 8, 9, 2, 3, 10, 11, 12, 13, 4, 1] rfl)
                · have hF := q_if_t (by first | exact c_295 | exact Classical.not_not.mp c_295) hF
                  refine lv_aload_n hx hb dL_law_1099 rfl (lv_at hl 6 rfl) ?_
                  refine lv_iconst (v := 1) hx hb dL_law_1100 (by decide) ?_
                  obtain ⟨⟨r_296, σN_297, σD_298⟩, h_299, hF⟩ := q_cl_s hF
                  try dsimp only at hF
                  refine gcV_i (As := [.int 1]) (rest := []) (ci := 6) (q := (RX6, TX6, 8)) F hK hN hP hD hS hA (m_X6_pan l g H.size qX AX σN_1 AP σP_292 AD σD_1 AC σC (1 : Int32) r_296 σN_297 σD_298 h_299) gL_law_X6_pan kX6_pan rfl rfl rfl rfl ⟨(Nat.le_of_ble_eq_true rfl), (Nat.le_of_ble_eq_true rfl)⟩ [0, 19, 17, 18, 9, 10, 11, 12, 13, 14, 15, 16, 1, 2, 3, 4, 5, 6, 7, 8] [20, 21, 22, 23, 24, 25, 26, 27, 28, 29, 30, 31] rfl rfl rfl (by decide) rfl rfl rfl rfl rfl hl.1 (Nat.le_of_ble_eq_true rfl) dL_law_1101 ⟨(Nat.le_of_ble_eq_true rfl), (Nat.le_of_ble_eq_true rfl)⟩ (fun r_w u_w H locs hw hP hD hS => ?_)
                  have hP : va_P g.1 vwCl (wX6 qX AX ++ wX1 g (AX 0) AC σC ++ wX1 g (AX 1) AD σD_298 ++ wX3 g (AX 3) AP σP_292 ++ wX2 (AX 4) σN_297 ++ wX5 g (AX 5) AW (.ref qH) σW ++ wX4 g (AX 6) AY σY ++ wX0 g (AX 7) AK σK ℓK ++ wH g qH σH) H := hP.sub [12, 24, 25, 26, 27, 28, 29, 30, 31, 16, 17, 18, 19, 20, 21, 22, 23, 14, 15, 13, 0, 1, 2, 3, 4, 5, 6, 7, 8, 9, 10, 11] rfl
                  have hD : va_D Z (wX6 qX AX ++ wX1 g (AX 0) AC σC ++ wX1 g (AX 1) AD σD_298 ++ wX3 g (AX 3) AP σP_292 ++ wX2 (AX 4) σN_297 ++ wX5 g (AX 5) AW (.ref qH) σW ++ wX4 g (AX 6) AY σY ++ wX0 g (AX 7) AK σK ℓK ++ wH g qH σH) := hD.sub [12, 24, 25, 26, 27, 28, 29, 30, 31, 16, 17, 18, 19, 20, 21, 22, 23, 14, 15, 13, 0, 1, 2, 3, 4, 5, 6, 7, 8, 9, 10, 11] (by decide) rfl
                  obtain rfl : r_296 = r_w := hw.symm
                  refine lv_iload hx hb dL_law_1104 (lv_at hl 1 rfl) ?_
                  refine lv_icmp_ne (tgt := 1146) hx hb dL_law_1106 (by decide) (fun c_301 => ?_) (fun c_301 => ?_)
                  · have hF := q_if_f c_301 hF
                    refine lv_iconst (v := 0) hx hb dL_law_1146 (by decide) ?_
                    refine lv_istore (lv' := [(14, .int 0), (5, .int (v5_1 + 1)), (6, .int 0), (13, .int v13_288), (15, .int v15_174), (16, .int v16_1), (0, .ref b), (1, .ref qX), (2, .int v2), (4, .int v4), (7, .int v7), (9, .int v9), (10, .int v10), (11, .int v11)]) hx hb dL_law_1147 hl (by decide) rfl (fun ls hl => ?_)
                    refine lv_iinc (v := v16_1 + 1) (lv' := [(16, .int (v16_1 + 1)), (14, .int 0), (5, .int (v5_1 + 1)), (6, .int 0), (13, .int v13_288), (15, .int v15_174), (0, .ref b), (1, .ref qX), (2, .int v2), (4, .int v4), (7, .int v7), (9, .int v9), (10, .int v10), (11, .int v11)]) hx hb dL_law_1149 hl (k := 5) rfl rfl (by decide) rfl (fun ls hl => ?_)
                    refine lv_goto (tgt := 1010) hx hb dL_law_1152 (by decide) ?_
                    exact ag (v16_1 + 1, v15_174, v5_1 + 1, (0 : Int32), v13_288, (0 : Int32), σP_292, σD_298, σN_297) hF _ _ _ hP hD hS (lv_sub hl [0, 5, 6, 7, 8, 9, 2, 3, 10, 11, 12, 13, 4, 1] rfl)
                  · have hF := q_if_t (by first | exact c_301 | exact Classical.not_not.mp c_301) hF
                    refine lv_aload_n hx hb dL_law_1109 rfl (lv_at hl 6 rfl) ?_
                    refine lv_iload hx hb dL_law_1110 (lv_at hl 11 rfl) ?_
                    refine lv_iconst (v := 1) hx hb dL_law_1112 (by decide) ?_
                    obtain ⟨⟨r_302, σN_303, σD_304⟩, h_305, hF⟩ := q_cl_s hF
                    try dsimp only at hF
                    refine gcV_i (As := [.int v10, .int 1]) (rest := []) (ci := 6) (q := (RX6, TX6, 8)) F hK hN hP hD hS hA (m_X6_behind l g H.size qX AX σN_297 AP σP_292 AD σD_298 AC σC v10 (1 : Int32) r_302 σN_303 σD_304 h_305) gL_law_X6_behind kX6_behind rfl rfl rfl rfl ⟨(Nat.le_of_ble_eq_true rfl), (Nat.le_of_ble_eq_true rfl)⟩ [0, 19, 17, 18, 9, 10, 11, 12, 13, 14, 15, 16, 1, 2, 3, 4, 5, 6, 7, 8] [20, 21, 22, 23, 24, 25, 26, 27, 28, 29, 30, 31] rfl rfl rfl (by decide) rfl rfl rfl rfl rfl hl.1 (Nat.le_of_ble_eq_true rfl) dL_law_1113 ⟨(Nat.le_of_ble_eq_true rfl), (Nat.le_of_ble_eq_true rfl)⟩ (fun r_w u_w H locs hw hP hD hS => ?_)
                    have hP : va_P g.1 vwCl (wX6 qX AX ++ wX1 g (AX 0) AC σC ++ wX1 g (AX 1) AD σD_304 ++ wX3 g (AX 3) AP σP_292 ++ wX2 (AX 4) σN_303 ++ wX5 g (AX 5) AW (.ref qH) σW ++ wX4 g (AX 6) AY σY ++ wX0 g (AX 7) AK σK ℓK ++ wH g qH σH) H := hP.sub [12, 24, 25, 26, 27, 28, 29, 30, 31, 16, 17, 18, 19, 20, 21, 22, 23, 14, 15, 13, 0, 1, 2, 3, 4, 5, 6, 7, 8, 9, 10, 11] rfl
                    have hD : va_D Z (wX6 qX AX ++ wX1 g (AX 0) AC σC ++ wX1 g (AX 1) AD σD_304 ++ wX3 g (AX 3) AP σP_292 ++ wX2 (AX 4) σN_303 ++ wX5 g (AX 5) AW (.ref qH) σW ++ wX4 g (AX 6) AY σY ++ wX0 g (AX 7) AK σK ℓK ++ wH g qH σH) := hD.sub [12, 24, 25, 26, 27, 28, 29, 30, 31, 16, 17, 18, 19, 20, 21, 22, 23, 14, 15, 13, 0, 1, 2, 3, 4, 5, 6, 7, 8, 9, 10, 11] (by decide) rfl
                    obtain rfl : r_302 = r_w := hw.symm
                    refine lv_iload hx hb dL_law_1116 (lv_at hl 2 rfl) ?_
                    refine lv_icmp_ne (tgt := 1146) hx hb dL_law_1118 (by decide) (fun c_307 => ?_) (fun c_307 => ?_)
                    · have hF := q_if_f c_307 hF
                      refine lv_iconst (v := 0) hx hb dL_law_1146 (by decide) ?_
                      refine lv_istore (lv' := [(14, .int 0), (5, .int (v5_1 + 1)), (6, .int 0), (13, .int v13_288), (15, .int v15_174), (16, .int v16_1), (0, .ref b), (1, .ref qX), (2, .int v2), (4, .int v4), (7, .int v7), (9, .int v9), (10, .int v10), (11, .int v11)]) hx hb dL_law_1147 hl (by decide) rfl (fun ls hl => ?_)
                      refine lv_iinc (v := v16_1 + 1) (lv' := [(16, .int (v16_1 + 1)), (14, .int 0), (5, .int (v5_1 + 1)), (6, .int 0), (13, .int v13_288), (15, .int v15_174), (0, .ref b), (1, .ref qX), (2, .int v2), (4, .int v4), (7, .int v7), (9, .int v9), (10, .int v10), (11, .int v11)]) hx hb dL_law_1149 hl (k := 5) rfl rfl (by decide) rfl (fun ls hl => ?_)
                      refine lv_goto (tgt := 1010) hx hb dL_law_1152 (by decide) ?_
                      exact ag (v16_1 + 1, v15_174, v5_1 + 1, (0 : Int32), v13_288, (0 : Int32), σP_292, σD_304, σN_303) hF _ _ _ hP hD hS (lv_sub hl [0, 5, 6, 7, 8, 9, 2, 3, 10, 11, 12, 13, 4, 1] rfl)
                    · have hF := q_if_t (by first | exact c_307 | exact Classical.not_not.mp c_307) hF
                      refine lv_aload_n hx hb dL_law_1121 rfl (lv_at hl 6 rfl) ?_
                      refine lv_iload hx hb dL_law_1122 (lv_at hl 11 rfl) ?_
                      refine lv_iconst (v := 0) hx hb dL_law_1124 (by decide) ?_
                      obtain ⟨⟨r_308, σN_309, σD_310⟩, h_311, hF⟩ := q_cl_s hF
                      try dsimp only at hF
                      refine gcV_i (As := [.int v10, .int 0]) (rest := []) (ci := 6) (q := (RX6, TX6, 8)) F hK hN hP hD hS hA (m_X6_behind l g H.size qX AX σN_303 AP σP_292 AD σD_304 AC σC v10 (0 : Int32) r_308 σN_309 σD_310 h_311) gL_law_X6_behind kX6_behind rfl rfl rfl rfl ⟨(Nat.le_of_ble_eq_true rfl), (Nat.le_of_ble_eq_true rfl)⟩ [0, 19, 17, 18, 9, 10, 11, 12, 13, 14, 15, 16, 1, 2, 3, 4, 5, 6, 7, 8] [20, 21, 22, 23, 24, 25, 26, 27, 28, 29, 30, 31] rfl rfl rfl (by decide) rfl rfl rfl rfl rfl hl.1 (Nat.le_of_ble_eq_true rfl) dL_law_1125 ⟨(Nat.le_of_ble_eq_true rfl), (Nat.le_of_ble_eq_true rfl)⟩ (fun r_w u_w H locs hw hP hD hS => ?_)
                      have hP : va_P g.1 vwCl (wX6 qX AX ++ wX1 g (AX 0) AC σC ++ wX1 g (AX 1) AD σD_310 ++ wX3 g (AX 3) AP σP_292 ++ wX2 (AX 4) σN_309 ++ wX5 g (AX 5) AW (.ref qH) σW ++ wX4 g (AX 6) AY σY ++ wX0 g (AX 7) AK σK ℓK ++ wH g qH σH) H := hP.sub [12, 24, 25, 26, 27, 28, 29, 30, 31, 16, 17, 18, 19, 20, 21, 22, 23, 14, 15, 13, 0, 1, 2, 3, 4, 5, 6, 7, 8, 9, 10, 11] rfl
                      have hD : va_D Z (wX6 qX AX ++ wX1 g (AX 0) AC σC ++ wX1 g (AX 1) AD σD_310 ++ wX3 g (AX 3) AP σP_292 ++ wX2 (AX 4) σN_309 ++ wX5 g (AX 5) AW (.ref qH) σW ++ wX4 g (AX 6) AY σY ++ wX0 g (AX 7) AK σK ℓK ++ wH g qH σH) := hD.sub [12, 24, 25, 26, 27, 28, 29, 30, 31, 16, 17, 18, 19, 20, 21, 22, 23, 14, 15, 13, 0, 1, 2, 3, 4, 5, 6, 7, 8, 9, 10, 11] (by decide) rfl
                      obtain rfl : r_308 = r_w := hw.symm
                      refine lv_iload hx hb dL_law_1128 (lv_at hl 3 rfl) ?_
                      refine lv_if_eq (tgt := 1137) hx hb dL_law_1130 (by decide) (fun c_313 => ?_) (fun c_313 => ?_)
                      · have hF := q_if_t c_313 hF
                        refine lv_bipush (v := (-6)) hx hb dL_law_1137 (by decide) ?_
                        refine lv_icmp_ne (tgt := 1146) hx hb dL_law_1139 (by decide) (fun c_314 => ?_) (fun c_314 => ?_)
                        · have hF := q_if_f c_314 hF
                          refine lv_iconst (v := 0) hx hb dL_law_1146 (by decide) ?_
                          refine lv_istore (lv' := [(14, .int 0), (5, .int (v5_1 + 1)), (6, .int 0), (13, .int v13_288), (15, .int v15_174), (16, .int v16_1), (0, .ref b), (1, .ref qX), (2, .int v2), (4, .int v4), (7, .int v7), (9, .int v9), (10, .int v10), (11, .int v11)]) hx hb dL_law_1147 hl (by decide) rfl (fun ls hl => ?_)
                          refine lv_iinc (v := v16_1 + 1) (lv' := [(16, .int (v16_1 + 1)), (14, .int 0), (5, .int (v5_1 + 1)), (6, .int 0), (13, .int v13_288), (15, .int v15_174), (0, .ref b), (1, .ref qX), (2, .int v2), (4, .int v4), (7, .int v7), (9, .int v9), (10, .int v10), (11, .int v11)]) hx hb dL_law_1149 hl (k := 5) rfl rfl (by decide) rfl (fun ls hl => ?_)
                          refine lv_goto (tgt := 1010) hx hb dL_law_1152 (by decide) ?_
                          exact ag (v16_1 + 1, v15_174, v5_1 + 1, (0 : Int32), v13_288, (0 : Int32), σP_292, σD_310, σN_309) hF _ _ _ hP hD hS (lv_sub hl [0, 5, 6, 7, 8, 9, 2, 3, 10, 11, 12, 13, 4, 1] rfl)
                        · have hF := q_if_t (by first | exact c_314 | exact Classical.not_not.mp c_314) hF
                          refine lv_iconst (v := 1) hx hb dL_law_1142 (by decide) ?_
                          refine lv_goto (tgt := 1147) hx hb dL_law_1143 (by decide) ?_
                          refine lv_istore (lv' := [(14, .int 1), (5, .int (v5_1 + 1)), (6, .int 0), (13, .int v13_288), (15, .int v15_174), (16, .int v16_1), (0, .ref b), (1, .ref qX), (2, .int v2), (4, .int v4), (7, .int v7), (9, .int v9), (10, .int v10), (11, .int v11)]) hx hb dL_law_1147 hl (by decide) rfl (fun ls hl => ?_)
                          refine lv_iinc (v := v16_1 + 1) (lv' := [(16, .int (v16_1 + 1)), (14, .int 1), (5, .int (v5_1 + 1)), (6, .int 0), (13, .int v13_288), (15, .int v15_174), (0, .ref b), (1, .ref qX), (2, .int v2), (4, .int v4), (7, .int v7), (9, .int v9), (10, .int v10), (11, .int v11)]) hx hb dL_law_1149 hl (k := 5) rfl rfl (by decide) rfl (fun ls hl => ?_)
                          refine lv_goto (tgt := 1010) hx hb dL_law_1152 (by decide) ?_
                          exact ag (v16_1 + 1, v15_174, v5_1 + 1, (0 : Int32), v13_288, (1 : Int32), σP_292, σD_310, σN_309) hF _ _ _ hP hD hS (lv_sub hl [0, 5, 6, 7, 8, 9, 2, 3, 10, 11, 12, 13, 4, 1] rfl)
                      · have hF := q_if_f c_313 hF
                        refine lv_iconst (v := 3) hx hb dL_law_1133 (by decide) ?_
                        refine lv_goto (tgt := 1139) hx hb dL_law_1134 (by decide) ?_
                        refine lv_icmp_ne (tgt := 1146) hx hb dL_law_1139 (by decide) (fun c_315 => ?_) (fun c_315 => ?_)
                        · have hF := q_if_f c_315 hF
                          refine lv_iconst (v := 0) hx hb dL_law_1146 (by decide) ?_
                          refine lv_istore (lv' := [(14, .int 0), (5, .int (v5_1 + 1)), (6, .int 0), (13, .int v13_288), (15, .int v15_174), (16, .int v16_1), (0, .ref b), (1, .ref qX), (2, .int v2), (4, .int v4), (7, .int v7), (9, .int v9), (10, .int v10), (11, .int v11)]) hx hb dL_law_1147 hl (by decide) rfl (fun ls hl => ?_)
                          refine lv_iinc (v := v16_1 + 1) (lv' := [(16, .int (v16_1 + 1)), (14, .int 0), (5, .int (v5_1 + 1)), (6, .int 0), (13, .int v13_288), (15, .int v15_174), (0, .ref b), (1, .ref qX), (2, .int v2), (4, .int v4), (7, .int v7), (9, .int v9), (10, .int v10), (11, .int v11)]) hx hb dL_law_1149 hl (k := 5) rfl rfl (by decide) rfl (fun ls hl => ?_)
                          refine lv_goto (tgt := 1010) hx hb dL_law_1152 (by decide) ?_
                          exact ag (v16_1 + 1, v15_174, v5_1 + 1, (0 : Int32), v13_288, (0 : Int32), σP_292, σD_310, σN_309) hF _ _ _ hP hD hS (lv_sub hl [0, 5, 6, 7, 8, 9, 2, 3, 10, 11, 12, 13, 4, 1] rfl)
                        · have hF := q_if_t (by first | exact c_315 | exact Classical.not_not.mp c_315) hF
                          refine lv_iconst (v := 1) hx hb dL_law_1142 (by decide) ?_
                          refine lv_goto (tgt := 1147) hx hb dL_law_1143 (by decide) ?_
                          refine lv_istore (lv' := [(14, .int 1), (5, .int (v5_1 + 1)), (6, .int 0), (13, .int v13_288), (15, .int v15_174), (16, .int v16_1), (0, .ref b), (1, .ref qX), (2, .int v2), (4, .int v4), (7, .int v7), (9, .int v9), (10, .int v10), (11, .int v11)]) hx hb dL_law_1147 hl (by decide) rfl (fun ls hl => ?_)
                          refine lv_iinc (v := v16_1 + 1) (lv' := [(16, .int (v16_1 + 1)), (14, .int 1), (5, .int (v5_1 + 1)), (6, .int 0), (13, .int v13_288), (15, .int v15_174), (0, .ref b), (1, .ref qX), (2, .int v2), (4, .int v4), (7, .int v7), (9, .int v9), (10, .int v10), (11, .int v11)]) hx hb dL_law_1149 hl (k := 5) rfl rfl (by decide) rfl (fun ls hl => ?_)
                          refine lv_goto (tgt := 1010) hx hb dL_law_1152 (by decide) ?_
                          exact ag (v16_1 + 1, v15_174, v5_1 + 1, (0 : Int32), v13_288, (1 : Int32), σP_292, σD_310, σN_309) hF _ _ _ hP hD hS (lv_sub hl [0, 5, 6, 7, 8, 9, 2, 3, 10, 11, 12, 13, 4, 1] rfl)
              · have hF := q_if_f c_290 hF
                refine lv_iload hx hb dL_law_1075 (lv_at hl 8 rfl) ?_
                refine lv_iconst (v := 5) hx hb dL_law_1077 (by decide) ?_
                refine lv_isub hx hb dL_law_1078 ?_
                refine lv_goto (tgt := 1083) hx hb dL_law_1079 (by decide) ?_
                obtain ⟨v6_316, e_317, hF⟩ := q_bd_s hF
                refine gtop e_317 ?_
                refine lv_istore (lv' := [(6, .int v6_316), (13, .int v13_288), (15, .int v15_174), (16, .int v16_1), (0, .ref b), (1, .ref qX), (2, .int v2), (4, .int v4), (5, .int v5_1), (7, .int v7), (9, .int v9), (10, .int v10), (11, .int v11), (14, .int v14_1)]) hx hb dL_law_1083 hl (by decide) rfl (fun ls hl => ?_)
                refine lv_iinc (v := v5_1 + 1) (lv' := [(5, .int (v5_1 + 1)), (6, .int v6_316), (13, .int v13_288), (15, .int v15_174), (16, .int v16_1), (0, .ref b), (1, .ref qX), (2, .int v2), (4, .int v4), (7, .int v7), (9, .int v9), (10, .int v10), (11, .int v11), (14, .int v14_1)]) hx hb dL_law_1085 hl (k := 8) rfl rfl (by decide) rfl (fun ls hl => ?_)
                refine lv_aload_n hx hb dL_law_1088 rfl (lv_at hl 6 rfl) ?_
                refine lv_bipush (v := 42) hx hb dL_law_1089 (by decide) ?_
                obtain ⟨⟨r_318, σP_319⟩, h_320, hF⟩ := q_cl_s hF
                try dsimp only at hF
                refine gcV_i (As := [.int 42]) (rest := []) (ci := 6) (q := (RX6, TX6, 8)) F hK hN hP hD hS hA (m_X6_say l g H.size qX AX AP σP_1 (42 : Int32) r_318 σP_319 h_320) gL_law_X6_say kX6_say rfl rfl rfl rfl ⟨(Nat.le_of_ble_eq_true rfl), (Nat.le_of_ble_eq_true rfl)⟩ [0, 17, 18] [1, 2, 3, 4, 5, 6, 7, 8, 9, 10, 11, 12, 13, 14, 15, 16, 19, 20, 21, 22, 23, 24, 25, 26, 27, 28, 29, 30, 31] rfl rfl rfl (by decide) rfl rfl rfl rfl rfl hl.1 (Nat.le_of_ble_eq_true rfl) dL_law_1091 ⟨(Nat.le_of_ble_eq_true rfl), (Nat.le_of_ble_eq_true rfl)⟩ (fun r_w u_w H locs hw hP hD hS => ?_)
                have hP : va_P g.1 vwCl (wX6 qX AX ++ wX1 g (AX 0) AC σC ++ wX1 g (AX 1) AD σD_1 ++ wX3 g (AX 3) AP σP_319 ++ wX2 (AX 4) σN_1 ++ wX5 g (AX 5) AW (.ref qH) σW ++ wX4 g (AX 6) AY σY ++ wX0 g (AX 7) AK σK ℓK ++ wH g qH σH) H := hP.sub [29, 0, 1, 2, 3, 4, 5, 6, 7, 8, 9, 10, 11, 12, 13, 14, 15, 30, 31, 16, 17, 18, 19, 20, 21, 22, 23, 24, 25, 26, 27, 28] rfl
                have hD : va_D Z (wX6 qX AX ++ wX1 g (AX 0) AC σC ++ wX1 g (AX 1) AD σD_1 ++ wX3 g (AX 3) AP σP_319 ++ wX2 (AX 4) σN_1 ++ wX5 g (AX 5) AW (.ref qH) σW ++ wX4 g (AX 6) AY σY ++ wX0 g (AX 7) AK σK ℓK ++ wH g qH σH) := hD.sub [29, 0, 1, 2, 3, 4, 5, 6, 7, 8, 9, 10, 11, 12, 13, 14, 15, 30, 31, 16, 17, 18, 19, 20, 21, 22, 23, 24, 25, 26, 27, 28] (by decide) rfl
                obtain rfl : r_318 = r_w := hw.symm
                refine lv_iload hx hb dL_law_1094 (lv_at hl 0 rfl) ?_
                refine lv_icmp_ne (tgt := 1146) hx hb dL_law_1096 (by decide) (fun c_322 => ?_) (fun c_322 => ?_)
                · have hF := q_if_f c_322 hF
                  refine lv_iconst (v := 0) hx hb dL_law_1146 (by decide) ?_
                  refine lv_istore (lv' := [(14, .int 0), (5, .int (v5_1 + 1)), (6, .int v6_316), (13, .int v13_288), (15, .int v15_174), (16, .int v16_1), (0, .ref b), (1, .ref qX), (2, .int v2), (4, .int v4), (7, .int v7), (9, .int v9), (10, .int v10), (11, .int v11)]) hx hb dL_law_1147 hl (by decide) rfl (fun ls hl => ?_)
                  refine lv_iinc (v := v16_1 + 1) (lv' := [(16, .int (v16_1 + 1)), (14, .int 0), (5, .int (v5_1 + 1)), (6, .int v6_316), (13, .int v13_288), (15, .int v15_174), (0, .ref b), (1, .ref qX), (2, .int v2), (4, .int v4), (7, .int v7), (9, .int v9), (10, .int v10), (11, .int v11)]) hx hb dL_law_1149 hl (k := 5) rfl rfl (by decide) rfl (fun ls hl => ?_)
                  refine lv_goto (tgt := 1010) hx hb dL_law_1152 (by decide) ?_
                  exact ag (v16_1 + 1, v15_174, v5_1 + 1, v6_316, v13_288, (0 : Int32), σP_319, σD_1, σN_1) hF _ _ _ hP hD hS (lv_sub hl [0, 5, 6, 7, 8, 9, 2, 3, 10, 11, 12, 13, 4, 1] rfl)
                · have hF := q_if_t (by first | exact c_322 | exact Classical.not_not.mp c_322) hF
                  refine lv_aload_n hx hb dL_law_1099 rfl (lv_at hl 6 rfl) ?_
                  refine lv_iconst (v := 1) hx hb dL_law_1100 (by decide) ?_
                  obtain ⟨⟨r_323, σN_324, σD_325⟩, h_326, hF⟩ := q_cl_s hF
                  try dsimp only at hF
                  refine gcV_i (As := [.int 1]) (rest := []) (ci := 6) (q := (RX6, TX6, 8)) F hK hN hP hD hS hA (m_X6_pan l g H.size qX AX σN_1 AP σP_319 AD σD_1 AC σC (1 : Int32) r_323 σN_324 σD_325 h_326) gL_law_X6_pan kX6_pan rfl rfl rfl rfl ⟨(Nat.le_of_ble_eq_true rfl), (Nat.le_of_ble_eq_true rfl)⟩ [0, 19, 17, 18, 9, 10, 11, 12, 13, 14, 15, 16, 1, 2, 3, 4, 5, 6, 7, 8] [20, 21, 22, 23, 24, 25, 26, 27, 28, 29, 30, 31] rfl rfl rfl (by decide) rfl rfl rfl rfl rfl hl.1 (Nat.le_of_ble_eq_true rfl) dL_law_1101 ⟨(Nat.le_of_ble_eq_true rfl), (Nat.le_of_ble_eq_true rfl)⟩ (fun r_w u_w H locs hw hP hD hS => ?_)
                  have hP : va_P g.1 vwCl (wX6 qX AX ++ wX1 g (AX 0) AC σC ++ wX1 g (AX 1) AD σD_325 ++ wX3 g (AX 3) AP σP_319 ++ wX2 (AX 4) σN_324 ++ wX5 g (AX 5) AW (.ref qH) σW ++ wX4 g (AX 6) AY σY ++ wX0 g (AX 7) AK σK ℓK ++ wH g qH σH) H := hP.sub [12, 24, 25, 26, 27, 28, 29, 30, 31, 16, 17, 18, 19, 20, 21, 22, 23, 14, 15, 13, 0, 1, 2, 3, 4, 5, 6, 7, 8, 9, 10, 11] rfl
                  have hD : va_D Z (wX6 qX AX ++ wX1 g (AX 0) AC σC ++ wX1 g (AX 1) AD σD_325 ++ wX3 g (AX 3) AP σP_319 ++ wX2 (AX 4) σN_324 ++ wX5 g (AX 5) AW (.ref qH) σW ++ wX4 g (AX 6) AY σY ++ wX0 g (AX 7) AK σK ℓK ++ wH g qH σH) := hD.sub [12, 24, 25, 26, 27, 28, 29, 30, 31, 16, 17, 18, 19, 20, 21, 22, 23, 14, 15, 13, 0, 1, 2, 3, 4, 5, 6, 7, 8, 9, 10, 11] (by decide) rfl
                  obtain rfl : r_323 = r_w := hw.symm
                  refine lv_iload hx hb dL_law_1104 (lv_at hl 1 rfl) ?_
                  refine lv_icmp_ne (tgt := 1146) hx hb dL_law_1106 (by decide) (fun c_328 => ?_) (fun c_328 => ?_)
                  · have hF := q_if_f c_328 hF
                    refine lv_iconst (v := 0) hx hb dL_law_1146 (by decide) ?_
                    refine lv_istore (lv' := [(14, .int 0), (5, .int (v5_1 + 1)), (6, .int v6_316), (13, .int v13_288), (15, .int v15_174), (16, .int v16_1), (0, .ref b), (1, .ref qX), (2, .int v2), (4, .int v4), (7, .int v7), (9, .int v9), (10, .int v10), (11, .int v11)]) hx hb dL_law_1147 hl (by decide) rfl (fun ls hl => ?_)
                    refine lv_iinc (v := v16_1 + 1) (lv' := [(16, .int (v16_1 + 1)), (14, .int 0), (5, .int (v5_1 + 1)), (6, .int v6_316), (13, .int v13_288), (15, .int v15_174), (0, .ref b), (1, .ref qX), (2, .int v2), (4, .int v4), (7, .int v7), (9, .int v9), (10, .int v10), (11, .int v11)]) hx hb dL_law_1149 hl (k := 5) rfl rfl (by decide) rfl (fun ls hl => ?_)
                    refine lv_goto (tgt := 1010) hx hb dL_law_1152 (by decide) ?_
                    exact ag (v16_1 + 1, v15_174, v5_1 + 1, v6_316, v13_288, (0 : Int32), σP_319, σD_325, σN_324) hF _ _ _ hP hD hS (lv_sub hl [0, 5, 6, 7, 8, 9, 2, 3, 10, 11, 12, 13, 4, 1] rfl)
                  · have hF := q_if_t (by first | exact c_328 | exact Classical.not_not.mp c_328) hF
                    refine lv_aload_n hx hb dL_law_1109 rfl (lv_at hl 6 rfl) ?_
                    refine lv_iload hx hb dL_law_1110 (lv_at hl 11 rfl) ?_
                    refine lv_iconst (v := 1) hx hb dL_law_1112 (by decide) ?_
                    obtain ⟨⟨r_329, σN_330, σD_331⟩, h_332, hF⟩ := q_cl_s hF
                    try dsimp only at hF
                    refine gcV_i (As := [.int v10, .int 1]) (rest := []) (ci := 6) (q := (RX6, TX6, 8)) F hK hN hP hD hS hA (m_X6_behind l g H.size qX AX σN_324 AP σP_319 AD σD_325 AC σC v10 (1 : Int32) r_329 σN_330 σD_331 h_332) gL_law_X6_behind kX6_behind rfl rfl rfl rfl ⟨(Nat.le_of_ble_eq_true rfl), (Nat.le_of_ble_eq_true rfl)⟩ [0, 19, 17, 18, 9, 10, 11, 12, 13, 14, 15, 16, 1, 2, 3, 4, 5, 6, 7, 8] [20, 21, 22, 23, 24, 25, 26, 27, 28, 29, 30, 31] rfl rfl rfl (by decide) rfl rfl rfl rfl rfl hl.1 (Nat.le_of_ble_eq_true rfl) dL_law_1113 ⟨(Nat.le_of_ble_eq_true rfl), (Nat.le_of_ble_eq_true rfl)⟩ (fun r_w u_w H locs hw hP hD hS => ?_)
                    have hP : va_P g.1 vwCl (wX6 qX AX ++ wX1 g (AX 0) AC σC ++ wX1 g (AX 1) AD σD_331 ++ wX3 g (AX 3) AP σP_319 ++ wX2 (AX 4) σN_330 ++ wX5 g (AX 5) AW (.ref qH) σW ++ wX4 g (AX 6) AY σY ++ wX0 g (AX 7) AK σK ℓK ++ wH g qH σH) H := hP.sub [12, 24, 25, 26, 27, 28, 29, 30, 31, 16, 17, 18, 19, 20, 21, 22, 23, 14, 15, 13, 0, 1, 2, 3, 4, 5, 6, 7, 8, 9, 10, 11] rfl
                    have hD : va_D Z (wX6 qX AX ++ wX1 g (AX 0) AC σC ++ wX1 g (AX 1) AD σD_331 ++ wX3 g (AX 3) AP σP_319 ++ wX2 (AX 4) σN_330 ++ wX5 g (AX 5) AW (.ref qH) σW ++ wX4 g (AX 6) AY σY ++ wX0 g (AX 7) AK σK ℓK ++ wH g qH σH) := hD.sub [12, 24, 25, 26, 27, 28, 29, 30, 31, 16, 17, 18, 19, 20, 21, 22, 23, 14, 15, 13, 0, 1, 2, 3, 4, 5, 6, 7, 8, 9, 10, 11] (by decide) rfl
                    obtain rfl : r_329 = r_w := hw.symm
                    refine lv_iload hx hb dL_law_1116 (lv_at hl 2 rfl) ?_
                    refine lv_icmp_ne (tgt := 1146) hx hb dL_law_1118 (by decide) (fun c_334 => ?_) (fun c_334 => ?_)
                    · have hF := q_if_f c_334 hF
                      refine lv_iconst (v := 0) hx hb dL_law_1146 (by decide) ?_
                      refine lv_istore (lv' := [(14, .int 0), (5, .int (v5_1 + 1)), (6, .int v6_316), (13, .int v13_288), (15, .int v15_174), (16, .int v16_1), (0, .ref b), (1, .ref qX), (2, .int v2), (4, .int v4), (7, .int v7), (9, .int v9), (10, .int v10), (11, .int v11)]) hx hb dL_law_1147 hl (by decide) rfl (fun ls hl => ?_)
                      refine lv_iinc (v := v16_1 + 1) (lv' := [(16, .int (v16_1 + 1)), (14, .int 0), (5, .int (v5_1 + 1)), (6, .int v6_316), (13, .int v13_288), (15, .int v15_174), (0, .ref b), (1, .ref qX), (2, .int v2), (4, .int v4), (7, .int v7), (9, .int v9), (10, .int v10), (11, .int v11)]) hx hb dL_law_1149 hl (k := 5) rfl rfl (by decide) rfl (fun ls hl => ?_)
                      refine lv_goto (tgt := 1010) hx hb dL_law_1152 (by decide) ?_
                      exact ag (v16_1 + 1, v15_174, v5_1 + 1, v6_316, v13_288, (0 : Int32), σP_319, σD_331, σN_330) hF _ _ _ hP hD hS (lv_sub hl [0, 5, 6, 7, 8, 9, 2, 3, 10, 11, 12, 13, 4, 1] rfl)
                    · have hF := q_if_t (by first | exact c_334 | exact Classical.not_not.mp c_334) hF
                      refine lv_aload_n hx hb dL_law_1121 rfl (lv_at hl 6 rfl) ?_
                      refine lv_iload hx hb dL_law_1122 (lv_at hl 11 rfl) ?_
                      refine lv_iconst (v := 0) hx hb dL_law_1124 (by decide) ?_
                      obtain ⟨⟨r_335, σN_336, σD_337⟩, h_338, hF⟩ := q_cl_s hF
                      try dsimp only at hF
                      refine gcV_i (As := [.int v10, .int 0]) (rest := []) (ci := 6) (q := (RX6, TX6, 8)) F hK hN hP hD hS hA (m_X6_behind l g H.size qX AX σN_330 AP σP_319 AD σD_331 AC σC v10 (0 : Int32) r_335 σN_336 σD_337 h_338) gL_law_X6_behind kX6_behind rfl rfl rfl rfl ⟨(Nat.le_of_ble_eq_true rfl), (Nat.le_of_ble_eq_true rfl)⟩ [0, 19, 17, 18, 9, 10, 11, 12, 13, 14, 15, 16, 1, 2, 3, 4, 5, 6, 7, 8] [20, 21, 22, 23, 24, 25, 26, 27, 28, 29, 30, 31] rfl rfl rfl (by decide) rfl rfl rfl rfl rfl hl.1 (Nat.le_of_ble_eq_true rfl) dL_law_1125 ⟨(Nat.le_of_ble_eq_true rfl), (Nat.le_of_ble_eq_true rfl)⟩ (fun r_w u_w H locs hw hP hD hS => ?_)
                      have hP : va_P g.1 vwCl (wX6 qX AX ++ wX1 g (AX 0) AC σC ++ wX1 g (AX 1) AD σD_337 ++ wX3 g (AX 3) AP σP_319 ++ wX2 (AX 4) σN_336 ++ wX5 g (AX 5) AW (.ref qH) σW ++ wX4 g (AX 6) AY σY ++ wX0 g (AX 7) AK σK ℓK ++ wH g qH σH) H := hP.sub [12, 24, 25, 26, 27, 28, 29, 30, 31, 16, 17, 18, 19, 20, 21, 22, 23, 14, 15, 13, 0, 1, 2, 3, 4, 5, 6, 7, 8, 9, 10, 11] rfl
                      have hD : va_D Z (wX6 qX AX ++ wX1 g (AX 0) AC σC ++ wX1 g (AX 1) AD σD_337 ++ wX3 g (AX 3) AP σP_319 ++ wX2 (AX 4) σN_336 ++ wX5 g (AX 5) AW (.ref qH) σW ++ wX4 g (AX 6) AY σY ++ wX0 g (AX 7) AK σK ℓK ++ wH g qH σH) := hD.sub [12, 24, 25, 26, 27, 28, 29, 30, 31, 16, 17, 18, 19, 20, 21, 22, 23, 14, 15, 13, 0, 1, 2, 3, 4, 5, 6, 7, 8, 9, 10, 11] (by decide) rfl
                      obtain rfl : r_335 = r_w := hw.symm
                      refine lv_iload hx hb dL_law_1128 (lv_at hl 3 rfl) ?_
                      refine lv_if_eq (tgt := 1137) hx hb dL_law_1130 (by decide) (fun c_340 => ?_) (fun c_340 => ?_)
                      · have hF := q_if_t c_340 hF
                        refine lv_bipush (v := (-6)) hx hb dL_law_1137 (by decide) ?_
                        refine lv_icmp_ne (tgt := 1146) hx hb dL_law_1139 (by decide) (fun c_341 => ?_) (fun c_341 => ?_)
                        · have hF := q_if_f c_341 hF
                          refine lv_iconst (v := 0) hx hb dL_law_1146 (by decide) ?_
                          refine lv_istore (lv' := [(14, .int 0), (5, .int (v5_1 + 1)), (6, .int v6_316), (13, .int v13_288), (15, .int v15_174), (16, .int v16_1), (0, .ref b), (1, .ref qX), (2, .int v2), (4, .int v4), (7, .int v7), (9, .int v9), (10, .int v10), (11, .int v11)]) hx hb dL_law_1147 hl (by decide) rfl (fun ls hl => ?_)
                          refine lv_iinc (v := v16_1 + 1) (lv' := [(16, .int (v16_1 + 1)), (14, .int 0), (5, .int (v5_1 + 1)), (6, .int v6_316), (13, .int v13_288), (15, .int v15_174), (0, .ref b), (1, .ref qX), (2, .int v2), (4, .int v4), (7, .int v7), (9, .int v9), (10, .int v10), (11, .int v11)]) hx hb dL_law_1149 hl (k := 5) rfl rfl (by decide) rfl (fun ls hl => ?_)
                          refine lv_goto (tgt := 1010) hx hb dL_law_1152 (by decide) ?_
                          exact ag (v16_1 + 1, v15_174, v5_1 + 1, v6_316, v13_288, (0 : Int32), σP_319, σD_337, σN_336) hF _ _ _ hP hD hS (lv_sub hl [0, 5, 6, 7, 8, 9, 2, 3, 10, 11, 12, 13, 4, 1] rfl)
                        · have hF := q_if_t (by first | exact c_341 | exact Classical.not_not.mp c_341) hF
                          refine lv_iconst (v := 1) hx hb dL_law_1142 (by decide) ?_
                          refine lv_goto (tgt := 1147) hx hb dL_law_1143 (by decide) ?_
                          refine lv_istore (lv' := [(14, .int 1), (5, .int (v5_1 + 1)), (6, .int v6_316), (13, .int v13_288), (15, .int v15_174), (16, .int v16_1), (0, .ref b), (1, .ref qX), (2, .int v2), (4, .int v4), (7, .int v7), (9, .int v9), (10, .int v10), (11, .int v11)]) hx hb dL_law_1147 hl (by decide) rfl (fun ls hl => ?_)
                          refine lv_iinc (v := v16_1 + 1) (lv' := [(16, .int (v16_1 + 1)), (14, .int 1), (5, .int (v5_1 + 1)), (6, .int v6_316), (13, .int v13_288), (15, .int v15_174), (0, .ref b), (1, .ref qX), (2, .int v2), (4, .int v4), (7, .int v7), (9, .int v9), (10, .int v10), (11, .int v11)]) hx hb dL_law_1149 hl (k := 5) rfl rfl (by decide) rfl (fun ls hl => ?_)
                          refine lv_goto (tgt := 1010) hx hb dL_law_1152 (by decide) ?_
                          exact ag (v16_1 + 1, v15_174, v5_1 + 1, v6_316, v13_288, (1 : Int32), σP_319, σD_337, σN_336) hF _ _ _ hP hD hS (lv_sub hl [0, 5, 6, 7, 8, 9, 2, 3, 10, 11, 12, 13, 4, 1] rfl)
                      · have hF := q_if_f c_340 hF
                        refine lv_iconst (v := 3) hx hb dL_law_1133 (by decide) ?_
                        refine lv_goto (tgt := 1139) hx hb dL_law_1134 (by decide) ?_
                        refine lv_icmp_ne (tgt := 1146) hx hb dL_law_1139 (by decide) (fun c_342 => ?_) (fun c_342 => ?_)
                        · have hF := q_if_f c_342 hF
                          refine lv_iconst (v := 0) hx hb dL_law_1146 (by decide) ?_
                          refine lv_istore (lv' := [(14, .int 0), (5, .int (v5_1 + 1)), (6, .int v6_316), (13, .int v13_288), (15, .int v15_174), (16, .int v16_1), (0, .ref b), (1, .ref qX), (2, .int v2), (4, .int v4), (7, .int v7), (9, .int v9), (10, .int v10), (11, .int v11)]) hx hb dL_law_1147 hl (by decide) rfl (fun ls hl => ?_)
                          refine lv_iinc (v := v16_1 + 1) (lv' := [(16, .int (v16_1 + 1)), (14, .int 0), (5, .int (v5_1 + 1)), (6, .int v6_316), (13, .int v13_288), (15, .int v15_174), (0, .ref b), (1, .ref qX), (2, .int v2), (4, .int v4), (7, .int v7), (9, .int v9), (10, .int v10), (11, .int v11)]) hx hb dL_law_1149 hl (k := 5) rfl rfl (by decide) rfl (fun ls hl => ?_)
                          refine lv_goto (tgt := 1010) hx hb dL_law_1152 (by decide) ?_
                          exact ag (v16_1 + 1, v15_174, v5_1 + 1, v6_316, v13_288, (0 : Int32), σP_319, σD_337, σN_336) hF _ _ _ hP hD hS (lv_sub hl [0, 5, 6, 7, 8, 9, 2, 3, 10, 11, 12, 13, 4, 1] rfl)
                        · have hF := q_if_t (by first | exact c_342 | exact Classical.not_not.mp c_342) hF
                          refine lv_iconst (v := 1) hx hb dL_law_1142 (by decide) ?_
                          refine lv_goto (tgt := 1147) hx hb dL_law_1143 (by decide) ?_
                          refine lv_istore (lv' := [(14, .int 1), (5, .int (v5_1 + 1)), (6, .int v6_316), (13, .int v13_288), (15, .int v15_174), (16, .int v16_1), (0, .ref b), (1, .ref qX), (2, .int v2), (4, .int v4), (7, .int v7), (9, .int v9), (10, .int v10), (11, .int v11)]) hx hb dL_law_1147 hl (by decide) rfl (fun ls hl => ?_)
                          refine lv_iinc (v := v16_1 + 1) (lv' := [(16, .int (v16_1 + 1)), (14, .int 1), (5, .int (v5_1 + 1)), (6, .int v6_316), (13, .int v13_288), (15, .int v15_174), (0, .ref b), (1, .ref qX), (2, .int v2), (4, .int v4), (7, .int v7), (9, .int v9), (10, .int v10), (11, .int v11)]) hx hb dL_law_1149 hl (k := 5) rfl rfl (by decide) rfl (fun ls hl => ?_)
                          refine lv_goto (tgt := 1010) hx hb dL_law_1152 (by decide) ?_
                          exact ag (v16_1 + 1, v15_174, v5_1 + 1, v6_316, v13_288, (1 : Int32), σP_319, σD_337, σN_336) hF _ _ _ hP hD hS (lv_sub hl [0, 5, 6, 7, 8, 9, 2, 3, 10, 11, 12, 13, 4, 1] rfl)
