set_option maxHeartbeats 8000000 in
set_option maxRecDepth 100000 in
theorem gs_1283 {p : Program} {l : Launch} {e : Env} {s : State} {m : MethodId} {below : List Frame} {meth : Method} {c : Code} {b : Nat} {g : GT} {Z : Nat → Prop} {H : Heap} {locs : List Loc} {ls : Array Slot} {qH qX : Nat} {AX AC AD AP AW AY AK : Nat → Nat} {L : Nat} {xs : Nat → Int32} {σC : qS} {σD : qS} {σP : qS} {σN : qS} {σW : qS} {σY : qS} {σK : qS} {ℓK : qL} {σH : qS} {v2 : Int32} {v4 : Int32} {v7 : Int32} {v9 : Int32} {v10 : Int32}
    (hx : p.tables.exec = Jvm.exec) (hb : c.code = cL_law) (hr : meth.sig.returnType = ret) (hlocks : meth.locks = false) (F : CallFix p m c cL_law 30 s #[Value.ref b] wsL_law RL) (hK : va_K g.1 vwCl (tyL g) s) (hN : NW s) (hA : ∀ q : Nat, s.heap.size ≤ q → Z q) (hZ : Z = fun q => s.heap.size ≤ q) (hbA : ¬ Z b) (hX : va_X b L xs s s.heap) (hbl : b < s.heap.size) (hF : g_1283 L xs σC σD σP σN σW σY σK ℓK σH v2 v4 v7 v9 v10 = some 1)
    (hP : va_P g.1 vwCl (wX6 qX AX ++ wX1 g (AX 0) AC σC ++ wX1 g (AX 1) AD σD ++ wX3 g (AX 3) AP σP ++ wX2 (AX 4) σN ++ wX5 g (AX 5) AW (.ref qH) σW ++ wX4 g (AX 6) AY σY ++ wX0 g (AX 7) AK σK ℓK ++ wH g qH σH) H) (hD : va_D Z (wX6 qX AX ++ wX1 g (AX 0) AC σC ++ wX1 g (AX 1) AD σD ++ wX3 g (AX 3) AP σP ++ wX2 (AX 4) σN ++ wX5 g (AX 5) AW (.ref qH) σW ++ wX4 g (AX 6) AY σY ++ wX0 g (AX 7) AK σK ℓK ++ wH g qH σH)) (hS : va_S Z s.heap H locs) (hl : lv_has ls 30 [(0, .ref b), (1, .ref qX), (2, .int v2), (4, .int v4), (7, .int v7), (9, .int v9), (10, .int v10)]) : W p l e room_1 s m #[Value.ref b] below meth c H locs 200 40000 (lw_Z below #[Value.ref b] s) (F0 m 1283 ls []) := by
  have hts := F.2.2.2.2
  have hown : s.vm.findClass RL = some m.cls := F.2.2.2.1
  dsimp only [g_1283] at hF
  refine lv_iconst (v := 0) hx hb dL_law_1283 (by decide) ?_
  refine lv_istore (lv' := [(16, .int 0), (0, .ref b), (1, .ref qX), (2, .int v2), (4, .int v4), (7, .int v7), (9, .int v9), (10, .int v10)]) hx hb dL_law_1284 hl (by decide) rfl (fun ls hl => ?_)
  refine q_loop (fun u0 => wX6 qX AX ++ wX1 g (AX 0) AC σC ++ wX1 g (AX 1) AD u0.2.1 ++ wX3 g (AX 3) AP u0.2.2.1 ++ wX2 (AX 4) u0.2.2.2 ++ wX5 g (AX 5) AW (.ref qH) σW ++ wX4 g (AX 6) AY σY ++ wX0 g (AX 7) AK σK ℓK ++ wH g qH σH) (fun u0 => [(16, .int u0.1), (0, .ref b), (1, .ref qX), (2, .int v2), (4, .int v4), (7, .int v7), (9, .int v9), (10, .int v10)]) 1363 hF ?_ ?_ hP hD hS (lv_sub hl [0, 1, 2, 3, 4, 5, 6, 7] rfl)
  · rintro ⟨v16_1, σD_1, σP_1, σN_1⟩ hF H locs ls hP hD hS hl
    try dsimp only at hF
    have hP : va_P g.1 vwCl (wX6 qX AX ++ wX1 g (AX 0) AC σC ++ wX1 g (AX 1) AD σD_1 ++ wX3 g (AX 3) AP σP_1 ++ wX2 (AX 4) σN_1 ++ wX5 g (AX 5) AW (.ref qH) σW ++ wX4 g (AX 6) AY σY ++ wX0 g (AX 7) AK σK ℓK ++ wH g qH σH) H := hP
    have hD : va_D Z (wX6 qX AX ++ wX1 g (AX 0) AC σC ++ wX1 g (AX 1) AD σD_1 ++ wX3 g (AX 3) AP σP_1 ++ wX2 (AX 4) σN_1 ++ wX5 g (AX 5) AW (.ref qH) σW ++ wX4 g (AX 6) AY σY ++ wX0 g (AX 7) AK σK ℓK ++ wH g qH σH) := hD
    have hl : lv_has ls 30 [(16, .int v16_1), (0, .ref b), (1, .ref qX), (2, .int v2), (4, .int v4), (7, .int v7), (9, .int v9), (10, .int v10)] := hl
    refine lv_aload_n hx hb dL_law_1363 rfl (lv_at hl 2 rfl) ?_
    refine lv_iconst (v := 2) hx hb dL_law_1364 (by decide) ?_
    obtain ⟨⟨r_2, σN_3, σD_4⟩, h_5, hF⟩ := q_cl_s hF
    try dsimp only at hF
    refine gcV_i (As := [.int 2]) (rest := []) (ci := 6) (q := (RX6, TX6, 8)) F hK hN hP hD hS hA (m_X6_judge l g H.size qX AX σN_1 AP σP_1 AD σD_1 AC σC (2 : Int32) r_2 σN_3 σD_4 h_5) gL_law_X6_judge kX6_judge rfl rfl rfl rfl ⟨(Nat.le_of_ble_eq_true rfl), (Nat.le_of_ble_eq_true rfl)⟩ [0, 19, 17, 18, 9, 10, 11, 12, 13, 14, 15, 16, 1, 2, 3, 4, 5, 6, 7, 8] [20, 21, 22, 23, 24, 25, 26, 27, 28, 29, 30, 31] rfl rfl rfl (by decide) rfl rfl rfl rfl rfl hl.1 (Nat.le_of_ble_eq_true rfl) dL_law_1365 ⟨(Nat.le_of_ble_eq_true rfl), (Nat.le_of_ble_eq_true rfl)⟩ (fun r_w u_w H locs hw hP hD hS => ?_)
    have hP : va_P g.1 vwCl (wX6 qX AX ++ wX1 g (AX 0) AC σC ++ wX1 g (AX 1) AD σD_4 ++ wX3 g (AX 3) AP σP_1 ++ wX2 (AX 4) σN_3 ++ wX5 g (AX 5) AW (.ref qH) σW ++ wX4 g (AX 6) AY σY ++ wX0 g (AX 7) AK σK ℓK ++ wH g qH σH) H := hP.sub [12, 24, 25, 26, 27, 28, 29, 30, 31, 16, 17, 18, 19, 20, 21, 22, 23, 14, 15, 13, 0, 1, 2, 3, 4, 5, 6, 7, 8, 9, 10, 11] rfl
    have hD : va_D Z (wX6 qX AX ++ wX1 g (AX 0) AC σC ++ wX1 g (AX 1) AD σD_4 ++ wX3 g (AX 3) AP σP_1 ++ wX2 (AX 4) σN_3 ++ wX5 g (AX 5) AW (.ref qH) σW ++ wX4 g (AX 6) AY σY ++ wX0 g (AX 7) AK σK ℓK ++ wH g qH σH) := hD.sub [12, 24, 25, 26, 27, 28, 29, 30, 31, 16, 17, 18, 19, 20, 21, 22, 23, 14, 15, 13, 0, 1, 2, 3, 4, 5, 6, 7, 8, 9, 10, 11] (by decide) rfl
    obtain rfl : r_2 = r_w := hw.symm
    refine lv_bipush (v := 9) hx hb dL_law_1368 (by decide) ?_
    refine lv_icmp_ne (tgt := 1403) hx hb dL_law_1370 (by decide) (fun c_7 => ?_) (fun c_7 => ?_)
    · have hF := q_if_f c_7 hF
      refine lv_iconst (v := 0) hx hb dL_law_1403 (by decide) ?_
      exact absurd hF (by decide)
    · have hF := q_if_t (by first | exact c_7 | exact Classical.not_not.mp c_7) hF
      refine lv_aload_n hx hb dL_law_1373 rfl (lv_at hl 2 rfl) ?_
      refine lv_bipush (v := 46) hx hb dL_law_1374 (by decide) ?_
      obtain ⟨⟨r_8, σP_9⟩, h_10, hF⟩ := q_cl_s hF
      try dsimp only at hF
      refine gcV_i (As := [.int 46]) (rest := []) (ci := 6) (q := (RX6, TX6, 8)) F hK hN hP hD hS hA (m_X6_say l g H.size qX AX AP σP_1 (46 : Int32) r_8 σP_9 h_10) gL_law_X6_say kX6_say rfl rfl rfl rfl ⟨(Nat.le_of_ble_eq_true rfl), (Nat.le_of_ble_eq_true rfl)⟩ [0, 17, 18] [1, 2, 3, 4, 5, 6, 7, 8, 9, 10, 11, 12, 13, 14, 15, 16, 19, 20, 21, 22, 23, 24, 25, 26, 27, 28, 29, 30, 31] rfl rfl rfl (by decide) rfl rfl rfl rfl rfl hl.1 (Nat.le_of_ble_eq_true rfl) dL_law_1376 ⟨(Nat.le_of_ble_eq_true rfl), (Nat.le_of_ble_eq_true rfl)⟩ (fun r_w u_w H locs hw hP hD hS => ?_)
      have hP : va_P g.1 vwCl (wX6 qX AX ++ wX1 g (AX 0) AC σC ++ wX1 g (AX 1) AD σD_4 ++ wX3 g (AX 3) AP σP_9 ++ wX2 (AX 4) σN_3 ++ wX5 g (AX 5) AW (.ref qH) σW ++ wX4 g (AX 6) AY σY ++ wX0 g (AX 7) AK σK ℓK ++ wH g qH σH) H := hP.sub [29, 0, 1, 2, 3, 4, 5, 6, 7, 8, 9, 10, 11, 12, 13, 14, 15, 30, 31, 16, 17, 18, 19, 20, 21, 22, 23, 24, 25, 26, 27, 28] rfl
      have hD : va_D Z (wX6 qX AX ++ wX1 g (AX 0) AC σC ++ wX1 g (AX 1) AD σD_4 ++ wX3 g (AX 3) AP σP_9 ++ wX2 (AX 4) σN_3 ++ wX5 g (AX 5) AW (.ref qH) σW ++ wX4 g (AX 6) AY σY ++ wX0 g (AX 7) AK σK ℓK ++ wH g qH σH) := hD.sub [29, 0, 1, 2, 3, 4, 5, 6, 7, 8, 9, 10, 11, 12, 13, 14, 15, 30, 31, 16, 17, 18, 19, 20, 21, 22, 23, 24, 25, 26, 27, 28] (by decide) rfl
      obtain rfl : r_8 = r_w := hw.symm
      refine lv_bipush (v := 14) hx hb dL_law_1379 (by decide) ?_
      refine lv_icmp_ne (tgt := 1403) hx hb dL_law_1381 (by decide) (fun c_12 => ?_) (fun c_12 => ?_)
      · have hF := q_if_f c_12 hF
        refine lv_iconst (v := 0) hx hb dL_law_1403 (by decide) ?_
        exact absurd hF (by decide)
      · have hF := q_if_t (by first | exact c_12 | exact Classical.not_not.mp c_12) hF
        refine lv_aload_n hx hb dL_law_1384 rfl (lv_at hl 2 rfl) ?_
        refine lv_iload hx hb dL_law_1385 (lv_at hl 7 rfl) ?_
        refine lv_iconst (v := 2) hx hb dL_law_1387 (by decide) ?_
        obtain ⟨⟨r_13, σN_14, σD_15⟩, h_16, hF⟩ := q_cl_s hF
        try dsimp only at hF
        refine gcV_i (As := [.int v10, .int 2]) (rest := []) (ci := 6) (q := (RX6, TX6, 8)) F hK hN hP hD hS hA (m_X6_behind l g H.size qX AX σN_3 AP σP_9 AD σD_4 AC σC v10 (2 : Int32) r_13 σN_14 σD_15 h_16) gL_law_X6_behind kX6_behind rfl rfl rfl rfl ⟨(Nat.le_of_ble_eq_true rfl), (Nat.le_of_ble_eq_true rfl)⟩ [0, 19, 17, 18, 9, 10, 11, 12, 13, 14, 15, 16, 1, 2, 3, 4, 5, 6, 7, 8] [20, 21, 22, 23, 24, 25, 26, 27, 28, 29, 30, 31] rfl rfl rfl (by decide) rfl rfl rfl rfl rfl hl.1 (Nat.le_of_ble_eq_true rfl) dL_law_1388 ⟨(Nat.le_of_ble_eq_true rfl), (Nat.le_of_ble_eq_true rfl)⟩ (fun r_w u_w H locs hw hP hD hS => ?_)
        have hP : va_P g.1 vwCl (wX6 qX AX ++ wX1 g (AX 0) AC σC ++ wX1 g (AX 1) AD σD_15 ++ wX3 g (AX 3) AP σP_9 ++ wX2 (AX 4) σN_14 ++ wX5 g (AX 5) AW (.ref qH) σW ++ wX4 g (AX 6) AY σY ++ wX0 g (AX 7) AK σK ℓK ++ wH g qH σH) H := hP.sub [12, 24, 25, 26, 27, 28, 29, 30, 31, 16, 17, 18, 19, 20, 21, 22, 23, 14, 15, 13, 0, 1, 2, 3, 4, 5, 6, 7, 8, 9, 10, 11] rfl
        have hD : va_D Z (wX6 qX AX ++ wX1 g (AX 0) AC σC ++ wX1 g (AX 1) AD σD_15 ++ wX3 g (AX 3) AP σP_9 ++ wX2 (AX 4) σN_14 ++ wX5 g (AX 5) AW (.ref qH) σW ++ wX4 g (AX 6) AY σY ++ wX0 g (AX 7) AK σK ℓK ++ wH g qH σH) := hD.sub [12, 24, 25, 26, 27, 28, 29, 30, 31, 16, 17, 18, 19, 20, 21, 22, 23, 14, 15, 13, 0, 1, 2, 3, 4, 5, 6, 7, 8, 9, 10, 11] (by decide) rfl
        obtain rfl : r_13 = r_w := hw.symm
        refine lv_if_ne (tgt := 1403) hx hb dL_law_1391 (by decide) (fun c_18 => ?_) (fun c_18 => ?_)
        · have hF := q_if_f c_18 hF
          refine lv_iconst (v := 0) hx hb dL_law_1403 (by decide) ?_
          exact absurd hF (by decide)
        · have hF := q_if_t (by first | exact c_18 | exact Classical.not_not.mp c_18) hF
          refine lv_aload_n hx hb dL_law_1394 rfl (lv_at hl 2 rfl) ?_
          obtain ⟨⟨r_19, σP_20⟩, h_21, hF⟩ := q_cl_s hF
          try dsimp only at hF
          refine gcV_i (As := []) (rest := []) (ci := 6) (q := (RX6, TX6, 8)) F hK hN hP hD hS hA (m_X6_wipe l g H.size qX AX AP σP_9 r_19 σP_20 h_21) gL_law_X6_wipe kX6_wipe rfl rfl rfl rfl ⟨(Nat.le_of_ble_eq_true rfl), (Nat.le_of_ble_eq_true rfl)⟩ [0, 17, 18] [1, 2, 3, 4, 5, 6, 7, 8, 9, 10, 11, 12, 13, 14, 15, 16, 19, 20, 21, 22, 23, 24, 25, 26, 27, 28, 29, 30, 31] rfl rfl rfl (by decide) rfl rfl rfl rfl rfl hl.1 (Nat.le_of_ble_eq_true rfl) dL_law_1395 ⟨(Nat.le_of_ble_eq_true rfl), (Nat.le_of_ble_eq_true rfl)⟩ (fun r_w u_w H locs hw hP hD hS => ?_)
          have hP : va_P g.1 vwCl (wX6 qX AX ++ wX1 g (AX 0) AC σC ++ wX1 g (AX 1) AD σD_15 ++ wX3 g (AX 3) AP σP_20 ++ wX2 (AX 4) σN_14 ++ wX5 g (AX 5) AW (.ref qH) σW ++ wX4 g (AX 6) AY σY ++ wX0 g (AX 7) AK σK ℓK ++ wH g qH σH) H := hP.sub [29, 0, 1, 2, 3, 4, 5, 6, 7, 8, 9, 10, 11, 12, 13, 14, 15, 30, 31, 16, 17, 18, 19, 20, 21, 22, 23, 24, 25, 26, 27, 28] rfl
          have hD : va_D Z (wX6 qX AX ++ wX1 g (AX 0) AC σC ++ wX1 g (AX 1) AD σD_15 ++ wX3 g (AX 3) AP σP_20 ++ wX2 (AX 4) σN_14 ++ wX5 g (AX 5) AW (.ref qH) σW ++ wX4 g (AX 6) AY σY ++ wX0 g (AX 7) AK σK ℓK ++ wH g qH σH) := hD.sub [29, 0, 1, 2, 3, 4, 5, 6, 7, 8, 9, 10, 11, 12, 13, 14, 15, 30, 31, 16, 17, 18, 19, 20, 21, 22, 23, 24, 25, 26, 27, 28] (by decide) rfl
          obtain rfl : r_19 = r_w := hw.symm
          refine lv_bipush (v := 14) hx hb dL_law_1398 (by decide) ?_
          refine lv_icmp_eq (tgt := 1405) hx hb dL_law_1400 (by decide) (fun c_23 => ?_) (fun c_23 => ?_)
          · have hF := q_if_t c_23 hF
            exact gs_1405 hx hb hr hlocks F hK hN hA hZ hbA hX hbl hF hP hD hS (lv_sub hl [1, 2, 3, 4, 5, 6] rfl)
          · have hF := q_if_f c_23 hF
            refine lv_iconst (v := 0) hx hb dL_law_1403 (by decide) ?_
            exact absurd hF (by decide)
  · rintro k again kk ag ⟨v16_1, σD_1, σP_1, σN_1⟩ hF H locs ls hP hD hS hl
    dsimp only [b_L_law_1286] at hF
    have hP : va_P g.1 vwCl (wX6 qX AX ++ wX1 g (AX 0) AC σC ++ wX1 g (AX 1) AD σD_1 ++ wX3 g (AX 3) AP σP_1 ++ wX2 (AX 4) σN_1 ++ wX5 g (AX 5) AW (.ref qH) σW ++ wX4 g (AX 6) AY σY ++ wX0 g (AX 7) AK σK ℓK ++ wH g qH σH) H := hP
    have hD : va_D Z (wX6 qX AX ++ wX1 g (AX 0) AC σC ++ wX1 g (AX 1) AD σD_1 ++ wX3 g (AX 3) AP σP_1 ++ wX2 (AX 4) σN_1 ++ wX5 g (AX 5) AW (.ref qH) σW ++ wX4 g (AX 6) AY σY ++ wX0 g (AX 7) AK σK ℓK ++ wH g qH σH) := hD
    have hl : lv_has ls 30 [(16, .int v16_1), (0, .ref b), (1, .ref qX), (2, .int v2), (4, .int v4), (7, .int v7), (9, .int v9), (10, .int v10)] := hl
    refine lv_iload hx hb dL_law_1286 (lv_at hl 0 rfl) ?_
    refine lv_bipush (v := 9) hx hb dL_law_1288 (by decide) ?_
    refine lv_icmp_ge (tgt := 1363) hx hb dL_law_1290 (by decide) (fun c_24 => ?_) (fun c_24 => ?_)
    · have hF := q_if_t c_24 hF
      exact kk (v16_1, σD_1, σP_1, σN_1) hF _ _ _ hP hD hS (lv_sub hl [0, 1, 2, 3, 4, 5, 6, 7] rfl)
    · have hF := q_if_f c_24 hF
      refine lv_aload_n hx hb dL_law_1293 rfl (lv_at hl 2 rfl) ?_
      refine lv_bipush (v := 42) hx hb dL_law_1294 (by decide) ?_
      obtain ⟨⟨r_25, σP_26⟩, h_27, hF⟩ := q_cl_s hF
      try dsimp only at hF
      refine gcV_i (As := [.int 42]) (rest := []) (ci := 6) (q := (RX6, TX6, 8)) F hK hN hP hD hS hA (m_X6_say l g H.size qX AX AP σP_1 (42 : Int32) r_25 σP_26 h_27) gL_law_X6_say kX6_say rfl rfl rfl rfl ⟨(Nat.le_of_ble_eq_true rfl), (Nat.le_of_ble_eq_true rfl)⟩ [0, 17, 18] [1, 2, 3, 4, 5, 6, 7, 8, 9, 10, 11, 12, 13, 14, 15, 16, 19, 20, 21, 22, 23, 24, 25, 26, 27, 28, 29, 30, 31] rfl rfl rfl (by decide) rfl rfl rfl rfl rfl hl.1 (Nat.le_of_ble_eq_true rfl) dL_law_1296 ⟨(Nat.le_of_ble_eq_true rfl), (Nat.le_of_ble_eq_true rfl)⟩ (fun r_w u_w H locs hw hP hD hS => ?_)
      have hP : va_P g.1 vwCl (wX6 qX AX ++ wX1 g (AX 0) AC σC ++ wX1 g (AX 1) AD σD_1 ++ wX3 g (AX 3) AP σP_26 ++ wX2 (AX 4) σN_1 ++ wX5 g (AX 5) AW (.ref qH) σW ++ wX4 g (AX 6) AY σY ++ wX0 g (AX 7) AK σK ℓK ++ wH g qH σH) H := hP.sub [29, 0, 1, 2, 3, 4, 5, 6, 7, 8, 9, 10, 11, 12, 13, 14, 15, 30, 31, 16, 17, 18, 19, 20, 21, 22, 23, 24, 25, 26, 27, 28] rfl
      have hD : va_D Z (wX6 qX AX ++ wX1 g (AX 0) AC σC ++ wX1 g (AX 1) AD σD_1 ++ wX3 g (AX 3) AP σP_26 ++ wX2 (AX 4) σN_1 ++ wX5 g (AX 5) AW (.ref qH) σW ++ wX4 g (AX 6) AY σY ++ wX0 g (AX 7) AK σK ℓK ++ wH g qH σH) := hD.sub [29, 0, 1, 2, 3, 4, 5, 6, 7, 8, 9, 10, 11, 12, 13, 14, 15, 30, 31, 16, 17, 18, 19, 20, 21, 22, 23, 24, 25, 26, 27, 28] (by decide) rfl
      obtain rfl : r_25 = r_w := hw.symm
      refine lv_iconst (v := 5) hx hb dL_law_1299 (by decide) ?_
      refine lv_iload hx hb dL_law_1300 (lv_at hl 0 rfl) ?_
      refine lv_iadd hx hb dL_law_1302 ?_
      refine lv_icmp_ne (tgt := 1355) hx hb dL_law_1303 (by decide) (fun c_29 => ?_) (fun c_29 => ?_)
      · have hF := q_if_f c_29 hF
        refine lv_iconst (v := 0) hx hb dL_law_1355 (by decide) ?_
        exact absurd hF (by decide)
      · have hF := q_if_t (by first | exact c_29 | exact Classical.not_not.mp c_29) hF
        refine lv_aload_n hx hb dL_law_1306 rfl (lv_at hl 2 rfl) ?_
        refine lv_iconst (v := 1) hx hb dL_law_1307 (by decide) ?_
        obtain ⟨⟨r_30, σN_31, σD_32⟩, h_33, hF⟩ := q_cl_s hF
        try dsimp only at hF
        refine gcV_i (As := [.int 1]) (rest := []) (ci := 6) (q := (RX6, TX6, 8)) F hK hN hP hD hS hA (m_X6_pan l g H.size qX AX σN_1 AP σP_26 AD σD_1 AC σC (1 : Int32) r_30 σN_31 σD_32 h_33) gL_law_X6_pan kX6_pan rfl rfl rfl rfl ⟨(Nat.le_of_ble_eq_true rfl), (Nat.le_of_ble_eq_true rfl)⟩ [0, 19, 17, 18, 9, 10, 11, 12, 13, 14, 15, 16, 1, 2, 3, 4, 5, 6, 7, 8] [20, 21, 22, 23, 24, 25, 26, 27, 28, 29, 30, 31] rfl rfl rfl (by decide) rfl rfl rfl rfl rfl hl.1 (Nat.le_of_ble_eq_true rfl) dL_law_1308 ⟨(Nat.le_of_ble_eq_true rfl), (Nat.le_of_ble_eq_true rfl)⟩ (fun r_w u_w H locs hw hP hD hS => ?_)
        have hP : va_P g.1 vwCl (wX6 qX AX ++ wX1 g (AX 0) AC σC ++ wX1 g (AX 1) AD σD_32 ++ wX3 g (AX 3) AP σP_26 ++ wX2 (AX 4) σN_31 ++ wX5 g (AX 5) AW (.ref qH) σW ++ wX4 g (AX 6) AY σY ++ wX0 g (AX 7) AK σK ℓK ++ wH g qH σH) H := hP.sub [12, 24, 25, 26, 27, 28, 29, 30, 31, 16, 17, 18, 19, 20, 21, 22, 23, 14, 15, 13, 0, 1, 2, 3, 4, 5, 6, 7, 8, 9, 10, 11] rfl
        have hD : va_D Z (wX6 qX AX ++ wX1 g (AX 0) AC σC ++ wX1 g (AX 1) AD σD_32 ++ wX3 g (AX 3) AP σP_26 ++ wX2 (AX 4) σN_31 ++ wX5 g (AX 5) AW (.ref qH) σW ++ wX4 g (AX 6) AY σY ++ wX0 g (AX 7) AK σK ℓK ++ wH g qH σH) := hD.sub [12, 24, 25, 26, 27, 28, 29, 30, 31, 16, 17, 18, 19, 20, 21, 22, 23, 14, 15, 13, 0, 1, 2, 3, 4, 5, 6, 7, 8, 9, 10, 11] (by decide) rfl
        obtain rfl : r_30 = r_w := hw.symm
        refine lv_iload hx hb dL_law_1311 (lv_at hl 0 rfl) ?_
        refine lv_bipush (v := 8) hx hb dL_law_1313 (by decide) ?_
        refine lv_icmp_ge (tgt := 1329) hx hb dL_law_1315 (by decide) (fun c_35 => ?_) (fun c_35 => ?_)
        · have hF := q_if_t c_35 hF
          refine lv_iconst (v := 0) hx hb dL_law_1329 (by decide) ?_
          refine lv_icmp_ne (tgt := 1355) hx hb dL_law_1330 (by decide) (fun c_36 => ?_) (fun c_36 => ?_)
          · have hF := q_if_f c_36 hF
            refine lv_iconst (v := 0) hx hb dL_law_1355 (by decide) ?_
            exact absurd hF (by decide)
          · have hF := q_if_t (by first | exact c_36 | exact Classical.not_not.mp c_36) hF
            refine lv_aload_n hx hb dL_law_1333 rfl (lv_at hl 2 rfl) ?_
            refine lv_iload hx hb dL_law_1334 (lv_at hl 7 rfl) ?_
            refine lv_iconst (v := 0) hx hb dL_law_1336 (by decide) ?_
            obtain ⟨⟨r_37, σN_38, σD_39⟩, h_40, hF⟩ := q_cl_s hF
            try dsimp only at hF
            refine gcV_i (As := [.int v10, .int 0]) (rest := []) (ci := 6) (q := (RX6, TX6, 8)) F hK hN hP hD hS hA (m_X6_behind l g H.size qX AX σN_31 AP σP_26 AD σD_32 AC σC v10 (0 : Int32) r_37 σN_38 σD_39 h_40) gL_law_X6_behind kX6_behind rfl rfl rfl rfl ⟨(Nat.le_of_ble_eq_true rfl), (Nat.le_of_ble_eq_true rfl)⟩ [0, 19, 17, 18, 9, 10, 11, 12, 13, 14, 15, 16, 1, 2, 3, 4, 5, 6, 7, 8] [20, 21, 22, 23, 24, 25, 26, 27, 28, 29, 30, 31] rfl rfl rfl (by decide) rfl rfl rfl rfl rfl hl.1 (Nat.le_of_ble_eq_true rfl) dL_law_1337 ⟨(Nat.le_of_ble_eq_true rfl), (Nat.le_of_ble_eq_true rfl)⟩ (fun r_w u_w H locs hw hP hD hS => ?_)
            have hP : va_P g.1 vwCl (wX6 qX AX ++ wX1 g (AX 0) AC σC ++ wX1 g (AX 1) AD σD_39 ++ wX3 g (AX 3) AP σP_26 ++ wX2 (AX 4) σN_38 ++ wX5 g (AX 5) AW (.ref qH) σW ++ wX4 g (AX 6) AY σY ++ wX0 g (AX 7) AK σK ℓK ++ wH g qH σH) H := hP.sub [12, 24, 25, 26, 27, 28, 29, 30, 31, 16, 17, 18, 19, 20, 21, 22, 23, 14, 15, 13, 0, 1, 2, 3, 4, 5, 6, 7, 8, 9, 10, 11] rfl
            have hD : va_D Z (wX6 qX AX ++ wX1 g (AX 0) AC σC ++ wX1 g (AX 1) AD σD_39 ++ wX3 g (AX 3) AP σP_26 ++ wX2 (AX 4) σN_38 ++ wX5 g (AX 5) AW (.ref qH) σW ++ wX4 g (AX 6) AY σY ++ wX0 g (AX 7) AK σK ℓK ++ wH g qH σH) := hD.sub [12, 24, 25, 26, 27, 28, 29, 30, 31, 16, 17, 18, 19, 20, 21, 22, 23, 14, 15, 13, 0, 1, 2, 3, 4, 5, 6, 7, 8, 9, 10, 11] (by decide) rfl
            obtain rfl : r_37 = r_w := hw.symm
            refine lv_bipush (v := (-6)) hx hb dL_law_1340 (by decide) ?_
            refine lv_icmp_ne (tgt := 1355) hx hb dL_law_1342 (by decide) (fun c_42 => ?_) (fun c_42 => ?_)
            · have hF := q_if_f c_42 hF
              refine lv_iconst (v := 0) hx hb dL_law_1355 (by decide) ?_
              exact absurd hF (by decide)
            · have hF := q_if_t (by first | exact c_42 | exact Classical.not_not.mp c_42) hF
              refine lv_aload_n hx hb dL_law_1345 rfl (lv_at hl 2 rfl) ?_
              refine lv_iload hx hb dL_law_1346 (lv_at hl 7 rfl) ?_
              refine lv_iconst (v := 1) hx hb dL_law_1348 (by decide) ?_
              obtain ⟨⟨r_43, σN_44, σD_45⟩, h_46, hF⟩ := q_cl_s hF
              try dsimp only at hF
              refine gcV_i (As := [.int v10, .int 1]) (rest := []) (ci := 6) (q := (RX6, TX6, 8)) F hK hN hP hD hS hA (m_X6_behind l g H.size qX AX σN_38 AP σP_26 AD σD_39 AC σC v10 (1 : Int32) r_43 σN_44 σD_45 h_46) gL_law_X6_behind kX6_behind rfl rfl rfl rfl ⟨(Nat.le_of_ble_eq_true rfl), (Nat.le_of_ble_eq_true rfl)⟩ [0, 19, 17, 18, 9, 10, 11, 12, 13, 14, 15, 16, 1, 2, 3, 4, 5, 6, 7, 8] [20, 21, 22, 23, 24, 25, 26, 27, 28, 29, 30, 31] rfl rfl rfl (by decide) rfl rfl rfl rfl rfl hl.1 (Nat.le_of_ble_eq_true rfl) dL_law_1349 ⟨(Nat.le_of_ble_eq_true rfl), (Nat.le_of_ble_eq_true rfl)⟩ (fun r_w u_w H locs hw hP hD hS => ?_)
              have hP : va_P g.1 vwCl (wX6 qX AX ++ wX1 g (AX 0) AC σC ++ wX1 g (AX 1) AD σD_45 ++ wX3 g (AX 3) AP σP_26 ++ wX2 (AX 4) σN_44 ++ wX5 g (AX 5) AW (.ref qH) σW ++ wX4 g (AX 6) AY σY ++ wX0 g (AX 7) AK σK ℓK ++ wH g qH σH) H := hP.sub [12, 24, 25, 26, 27, 28, 29, 30, 31, 16, 17, 18, 19, 20, 21, 22, 23, 14, 15, 13, 0, 1, 2, 3, 4, 5, 6, 7, 8, 9, 10, 11] rfl
              have hD : va_D Z (wX6 qX AX ++ wX1 g (AX 0) AC σC ++ wX1 g (AX 1) AD σD_45 ++ wX3 g (AX 3) AP σP_26 ++ wX2 (AX 4) σN_44 ++ wX5 g (AX 5) AW (.ref qH) σW ++ wX4 g (AX 6) AY σY ++ wX0 g (AX 7) AK σK ℓK ++ wH g qH σH) := hD.sub [12, 24, 25, 26, 27, 28, 29, 30, 31, 16, 17, 18, 19, 20, 21, 22, 23, 14, 15, 13, 0, 1, 2, 3, 4, 5, 6, 7, 8, 9, 10, 11] (by decide) rfl
              obtain rfl : r_43 = r_w := hw.symm
              refine lv_if_eq (tgt := 1357) hx hb dL_law_1352 (by decide) (fun c_48 => ?_) (fun c_48 => ?_)
              · have hF := q_if_t c_48 hF
                refine lv_iinc (v := v16_1 + 1) (lv' := [(16, .int (v16_1 + 1)), (0, .ref b), (1, .ref qX), (2, .int v2), (4, .int v4), (7, .int v7), (9, .int v9), (10, .int v10)]) hx hb dL_law_1357 hl (k := 0) rfl rfl (by decide) rfl (fun ls hl => ?_)
                refine lv_goto (tgt := 1286) hx hb dL_law_1360 (by decide) ?_
                exact ag (v16_1 + 1, σD_45, σP_26, σN_44) hF _ _ _ hP hD hS (lv_sub hl [0, 1, 2, 3, 4, 5, 6, 7] rfl)
              · have hF := q_if_f c_48 hF
                refine lv_iconst (v := 0) hx hb dL_law_1355 (by decide) ?_
                exact absurd hF (by decide)
        · have hF := q_if_f c_35 hF
          refine lv_bipush (v := 71) hx hb dL_law_1318 (by decide) ?_
          refine lv_bipush (v := 10) hx hb dL_law_1320 (by decide) ?_
          refine lv_iload hx hb dL_law_1322 (lv_at hl 0 rfl) ?_
          refine lv_imul hx hb dL_law_1324 ?_
          refine lv_isub hx hb dL_law_1325 ?_
          refine lv_goto (tgt := 1330) hx hb dL_law_1326 (by decide) ?_
          refine lv_icmp_ne (tgt := 1355) hx hb dL_law_1330 (by decide) (fun c_49 => ?_) (fun c_49 => ?_)
          · have hF := q_if_f c_49 hF
            refine lv_iconst (v := 0) hx hb dL_law_1355 (by decide) ?_
            exact absurd hF (by decide)
          · have hF := q_if_t (by first | exact c_49 | exact Classical.not_not.mp c_49) hF
            refine lv_aload_n hx hb dL_law_1333 rfl (lv_at hl 2 rfl) ?_
            refine lv_iload hx hb dL_law_1334 (lv_at hl 7 rfl) ?_
            refine lv_iconst (v := 0) hx hb dL_law_1336 (by decide) ?_
            obtain ⟨⟨r_50, σN_51, σD_52⟩, h_53, hF⟩ := q_cl_s hF
            try dsimp only at hF
            refine gcV_i (As := [.int v10, .int 0]) (rest := []) (ci := 6) (q := (RX6, TX6, 8)) F hK hN hP hD hS hA (m_X6_behind l g H.size qX AX σN_31 AP σP_26 AD σD_32 AC σC v10 (0 : Int32) r_50 σN_51 σD_52 h_53) gL_law_X6_behind kX6_behind rfl rfl rfl rfl ⟨(Nat.le_of_ble_eq_true rfl), (Nat.le_of_ble_eq_true rfl)⟩ [0, 19, 17, 18, 9, 10, 11, 12, 13, 14, 15, 16, 1, 2, 3, 4, 5, 6, 7, 8] [20, 21, 22, 23, 24, 25, 26, 27, 28, 29, 30, 31] rfl rfl rfl (by decide) rfl rfl rfl rfl rfl hl.1 (Nat.le_of_ble_eq_true rfl) dL_law_1337 ⟨(Nat.le_of_ble_eq_true rfl), (Nat.le_of_ble_eq_true rfl)⟩ (fun r_w u_w H locs hw hP hD hS => ?_)
            have hP : va_P g.1 vwCl (wX6 qX AX ++ wX1 g (AX 0) AC σC ++ wX1 g (AX 1) AD σD_52 ++ wX3 g (AX 3) AP σP_26 ++ wX2 (AX 4) σN_51 ++ wX5 g (AX 5) AW (.ref qH) σW ++ wX4 g (AX 6) AY σY ++ wX0 g (AX 7) AK σK ℓK ++ wH g qH σH) H := hP.sub [12, 24, 25, 26, 27, 28, 29, 30, 31, 16, 17, 18, 19, 20, 21, 22, 23, 14, 15, 13, 0, 1, 2, 3, 4, 5, 6, 7, 8, 9, 10, 11] rfl
            have hD : va_D Z (wX6 qX AX ++ wX1 g (AX 0) AC σC ++ wX1 g (AX 1) AD σD_52 ++ wX3 g (AX 3) AP σP_26 ++ wX2 (AX 4) σN_51 ++ wX5 g (AX 5) AW (.ref qH) σW ++ wX4 g (AX 6) AY σY ++ wX0 g (AX 7) AK σK ℓK ++ wH g qH σH) := hD.sub [12, 24, 25, 26, 27, 28, 29, 30, 31, 16, 17, 18, 19, 20, 21, 22, 23, 14, 15, 13, 0, 1, 2, 3, 4, 5, 6, 7, 8, 9, 10, 11] (by decide) rfl
            obtain rfl : r_50 = r_w := hw.symm
            refine lv_bipush (v := (-6)) hx hb dL_law_1340 (by decide) ?_
            refine lv_icmp_ne (tgt := 1355) hx hb dL_law_1342 (by decide) (fun c_55 => ?_) (fun c_55 => ?_)
            · have hF := q_if_f c_55 hF
              refine lv_iconst (v := 0) hx hb dL_law_1355 (by decide) ?_
              exact absurd hF (by decide)
            · have hF := q_if_t (by first | exact c_55 | exact Classical.not_not.mp c_55) hF
              refine lv_aload_n hx hb dL_law_1345 rfl (lv_at hl 2 rfl) ?_
              refine lv_iload hx hb dL_law_1346 (lv_at hl 7 rfl) ?_
              refine lv_iconst (v := 1) hx hb dL_law_1348 (by decide) ?_
              obtain ⟨⟨r_56, σN_57, σD_58⟩, h_59, hF⟩ := q_cl_s hF
              try dsimp only at hF
              refine gcV_i (As := [.int v10, .int 1]) (rest := []) (ci := 6) (q := (RX6, TX6, 8)) F hK hN hP hD hS hA (m_X6_behind l g H.size qX AX σN_51 AP σP_26 AD σD_52 AC σC v10 (1 : Int32) r_56 σN_57 σD_58 h_59) gL_law_X6_behind kX6_behind rfl rfl rfl rfl ⟨(Nat.le_of_ble_eq_true rfl), (Nat.le_of_ble_eq_true rfl)⟩ [0, 19, 17, 18, 9, 10, 11, 12, 13, 14, 15, 16, 1, 2, 3, 4, 5, 6, 7, 8] [20, 21, 22, 23, 24, 25, 26, 27, 28, 29, 30, 31] rfl rfl rfl (by decide) rfl rfl rfl rfl rfl hl.1 (Nat.le_of_ble_eq_true rfl) dL_law_1349 ⟨(Nat.le_of_ble_eq_true rfl), (Nat.le_of_ble_eq_true rfl)⟩ (fun r_w u_w H locs hw hP hD hS => ?_)
              have hP : va_P g.1 vwCl (wX6 qX AX ++ wX1 g (AX 0) AC σC ++ wX1 g (AX 1) AD σD_58 ++ wX3 g (AX 3) AP σP_26 ++ wX2 (AX 4) σN_57 ++ wX5 g (AX 5) AW (.ref qH) σW ++ wX4 g (AX 6) AY σY ++ wX0 g (AX 7) AK σK ℓK ++ wH g qH σH) H := hP.sub [12, 24, 25, 26, 27, 28, 29, 30, 31, 16, 17, 18, 19, 20, 21, 22, 23, 14, 15, 13, 0, 1, 2, 3, 4, 5, 6, 7, 8, 9, 10, 11] rfl
              have hD : va_D Z (wX6 qX AX ++ wX1 g (AX 0) AC σC ++ wX1 g (AX 1) AD σD_58 ++ wX3 g (AX 3) AP σP_26 ++ wX2 (AX 4) σN_57 ++ wX5 g (AX 5) AW (.ref qH) σW ++ wX4 g (AX 6) AY σY ++ wX0 g (AX 7) AK σK ℓK ++ wH g qH σH) := hD.sub [12, 24, 25, 26, 27, 28, 29, 30, 31, 16, 17, 18, 19, 20, 21, 22, 23, 14, 15, 13, 0, 1, 2, 3, 4, 5, 6, 7, 8, 9, 10, 11] (by decide) rfl
              obtain rfl : r_56 = r_w := hw.symm
              refine lv_if_eq (tgt := 1357) hx hb dL_law_1352 (by decide) (fun c_61 => ?_) (fun c_61 => ?_)
              · have hF := q_if_t c_61 hF
                refine lv_iinc (v := v16_1 + 1) (lv' := [(16, .int (v16_1 + 1)), (0, .ref b), (1, .ref qX), (2, .int v2), (4, .int v4), (7, .int v7), (9, .int v9), (10, .int v10)]) hx hb dL_law_1357 hl (k := 0) rfl rfl (by decide) rfl (fun ls hl => ?_)
                refine lv_goto (tgt := 1286) hx hb dL_law_1360 (by decide) ?_
                exact ag (v16_1 + 1, σD_58, σP_26, σN_57) hF _ _ _ hP hD hS (lv_sub hl [0, 1, 2, 3, 4, 5, 6, 7] rfl)
              · have hF := q_if_f c_61 hF
                refine lv_iconst (v := 0) hx hb dL_law_1355 (by decide) ?_
                exact absurd hF (by decide)
