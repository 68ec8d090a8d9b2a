set_option maxHeartbeats 8000000 in
set_option maxRecDepth 100000 in
theorem gs_1210 {p : Program} {l : Launch} {e : Env} {s : State} {m : MethodId} {below : List Frame} {meth : Method} {c : Code} {b : Nat} {g : GT} {Z : Nat → Prop} {H : Heap} {locs : List Loc} {ls : Array Slot} {qH qX : Nat} {AX AC AD AP AW AY AK : Nat → Nat} {L : Nat} {xs : Nat → Int32} {σC : qS} {σD : qS} {σP : qS} {σN : qS} {σW : qS} {σY : qS} {σK : qS} {ℓK : qL} {σH : qS} {v2 : Int32} {v4 : Int32} {v7 : Int32} {v9 : Int32} {v10 : Int32} {v11 : Int32}
    (hx : p.tables.exec = Jvm.exec) (hb : c.code = cL_law) (hr : meth.sig.returnType = ret) (hlocks : meth.locks = false) (F : CallFix p m c cL_law 30 s #[Value.ref b] wsL_law RL) (hK : va_K g.1 vwCl (tyL g) s) (hN : NW s) (hA : ∀ q : Nat, s.heap.size ≤ q → Z q) (hZ : Z = fun q => s.heap.size ≤ q) (hbA : ¬ Z b) (hX : va_X b L xs s s.heap) (hbl : b < s.heap.size) (hF : g_1210 L xs σC σD σP σN σW σY σK ℓK σH v2 v4 v7 v9 v10 v11 = some 1)
    (hP : va_P g.1 vwCl (wX6 qX AX ++ wX1 g (AX 0) AC σC ++ wX1 g (AX 1) AD σD ++ wX3 g (AX 3) AP σP ++ wX2 (AX 4) σN ++ wX5 g (AX 5) AW (.ref qH) σW ++ wX4 g (AX 6) AY σY ++ wX0 g (AX 7) AK σK ℓK ++ wH g qH σH) H) (hD : va_D Z (wX6 qX AX ++ wX1 g (AX 0) AC σC ++ wX1 g (AX 1) AD σD ++ wX3 g (AX 3) AP σP ++ wX2 (AX 4) σN ++ wX5 g (AX 5) AW (.ref qH) σW ++ wX4 g (AX 6) AY σY ++ wX0 g (AX 7) AK σK ℓK ++ wH g qH σH)) (hS : va_S Z s.heap H locs) (hl : lv_has ls 30 [(0, .ref b), (1, .ref qX), (2, .int v2), (4, .int v4), (7, .int v7), (9, .int v9), (10, .int v10), (11, .int v11)]) : W p l e room_1 s m #[Value.ref b] below meth c H locs 200 40000 (lw_Z below #[Value.ref b] s) (F0 m 1210 ls []) := by
  have hts := F.2.2.2.2
  have hown : s.vm.findClass RL = some m.cls := F.2.2.2.1
  dsimp only [g_1210] at hF
  refine lv_aload_n hx hb dL_law_1210 rfl (lv_at hl 1 rfl) ?_
  refine lv_iload hx hb dL_law_1211 (lv_at hl 6 rfl) ?_
  refine lv_iconst (v := 0) hx hb dL_law_1213 (by decide) ?_
  refine lv_iconst (v := 1) hx hb dL_law_1214 (by decide) ?_
  obtain ⟨⟨r_1, σC_2⟩, h_3, hF⟩ := q_cl_s hF
  try dsimp only at hF
  refine gcV_i (As := [.int v10, .int 0, .int 1]) (rest := []) (ci := 6) (q := (RX6, TX6, 8)) F hK hN hP hD hS hA (m_X6_house l g H.size qX AX AC σC v10 (0 : Int32) (1 : Int32) r_1 σC_2 h_3) gL_law_X6_house kX6_house rfl rfl rfl rfl ⟨(Nat.le_of_ble_eq_true rfl), (Nat.le_of_ble_eq_true rfl)⟩ [0, 1, 2, 3, 4, 5, 6, 7, 8] [9, 10, 11, 12, 13, 14, 15, 16, 17, 18, 19, 20, 21, 22, 23, 24, 25, 26, 27, 28, 29, 30, 31] rfl rfl rfl (by decide) rfl rfl rfl rfl rfl hl.1 (Nat.le_of_ble_eq_true rfl) dL_law_1215 ⟨(Nat.le_of_ble_eq_true rfl), (Nat.le_of_ble_eq_true rfl)⟩ (fun r_w u_w H locs hw hP hD hS => ?_)
  have hP : va_P g.1 vwCl (wX6 qX AX ++ wX1 g (AX 0) AC σC_2 ++ wX1 g (AX 1) AD σD ++ wX3 g (AX 3) AP σP ++ wX2 (AX 4) σN ++ wX5 g (AX 5) AW (.ref qH) σW ++ wX4 g (AX 6) AY σY ++ wX0 g (AX 7) AK σK ℓK ++ wH g qH σH) H := hP.sub [23, 24, 25, 26, 27, 28, 29, 30, 31, 0, 1, 2, 3, 4, 5, 6, 7, 8, 9, 10, 11, 12, 13, 14, 15, 16, 17, 18, 19, 20, 21, 22] rfl
  have hD : va_D Z (wX6 qX AX ++ wX1 g (AX 0) AC σC_2 ++ wX1 g (AX 1) AD σD ++ wX3 g (AX 3) AP σP ++ wX2 (AX 4) σN ++ wX5 g (AX 5) AW (.ref qH) σW ++ wX4 g (AX 6) AY σY ++ wX0 g (AX 7) AK σK ℓK ++ wH g qH σH) := hD.sub [23, 24, 25, 26, 27, 28, 29, 30, 31, 0, 1, 2, 3, 4, 5, 6, 7, 8, 9, 10, 11, 12, 13, 14, 15, 16, 17, 18, 19, 20, 21, 22] (by decide) rfl
  obtain rfl : r_1 = r_w := hw.symm
  refine lv_iload hx hb dL_law_1218 (lv_at hl 7 rfl) ?_
  refine lv_icmp_ne (tgt := 1281) hx hb dL_law_1220 (by decide) (fun c_5 => ?_) (fun c_5 => ?_)
  · have hF := q_if_f c_5 hF
    refine lv_iconst (v := 0) hx hb dL_law_1281 (by decide) ?_
    exact absurd hF (by decide)
  · have hF := q_if_t (by first | exact c_5 | exact Classical.not_not.mp c_5) hF
    refine lv_aload_n hx hb dL_law_1223 rfl (lv_at hl 1 rfl) ?_
    refine lv_bipush (v := 99) hx hb dL_law_1224 (by decide) ?_
    refine lv_iconst (v := 1) hx hb dL_law_1226 (by decide) ?_
    obtain ⟨⟨r_6, σW_7, σH_8⟩, h_9, hF⟩ := q_cl_s hF
    try dsimp only at hF
    refine gcV_i (As := [.int 99, .int 1]) (rest := []) (ci := 6) (q := (RX6, TX6, 8)) F hK hN hP hD hS hA (m_X6_round l g H.size qX AX AW σW qH σH AC σC_2 (99 : Int32) (1 : Int32) r_6 σW_7 σH_8 h_9) gL_law_X6_round kX6_round rfl rfl rfl rfl ⟨(Nat.le_of_ble_eq_true rfl), (Nat.le_of_ble_eq_true rfl)⟩ [0, 20, 21, 22, 31, 1, 2, 3, 4, 5, 6, 7, 8] [9, 10, 11, 12, 13, 14, 15, 16, 17, 18, 19, 23, 24, 25, 26, 27, 28, 29, 30] rfl rfl rfl (by decide) rfl rfl rfl rfl rfl hl.1 (Nat.le_of_ble_eq_true rfl) dL_law_1227 ⟨(Nat.le_of_ble_eq_true rfl), (Nat.le_of_ble_eq_true rfl)⟩ (fun r_w u_w H locs hw hP hD hS => ?_)
    have hP : va_P g.1 vwCl (wX6 qX AX ++ wX1 g (AX 0) AC σC_2 ++ wX1 g (AX 1) AD σD ++ wX3 g (AX 3) AP σP ++ wX2 (AX 4) σN ++ wX5 g (AX 5) AW (.ref qH) σW_7 ++ wX4 g (AX 6) AY σY ++ wX0 g (AX 7) AK σK ℓK ++ wH g qH σH_8) H := hP.sub [19, 24, 25, 26, 27, 28, 29, 30, 31, 0, 1, 2, 3, 4, 5, 6, 7, 8, 9, 10, 20, 21, 22, 11, 12, 13, 14, 15, 16, 17, 18, 23] rfl
    have hD : va_D Z (wX6 qX AX ++ wX1 g (AX 0) AC σC_2 ++ wX1 g (AX 1) AD σD ++ wX3 g (AX 3) AP σP ++ wX2 (AX 4) σN ++ wX5 g (AX 5) AW (.ref qH) σW_7 ++ wX4 g (AX 6) AY σY ++ wX0 g (AX 7) AK σK ℓK ++ wH g qH σH_8) := hD.sub [19, 24, 25, 26, 27, 28, 29, 30, 31, 0, 1, 2, 3, 4, 5, 6, 7, 8, 9, 10, 20, 21, 22, 11, 12, 13, 14, 15, 16, 17, 18, 23] (by decide) rfl
    obtain rfl : r_6 = r_w := hw.symm
    refine lv_iload hx hb dL_law_1230 (lv_at hl 6 rfl) ?_
    obtain ⟨r_11, h_12, hF⟩ := q_cl_s hF
    refine gcP (As := [.int r_6, .int v10]) (rest := []) F (m_L_has l r_6 v10 r_11 h_12) gL_law_L_has kL_has rfl rfl rfl ⟨(Nat.le_of_ble_eq_true rfl), (Nat.le_of_ble_eq_true rfl)⟩ rfl rfl hl.1 (Nat.le_of_ble_eq_true rfl) dL_law_1232 ⟨(Nat.le_of_ble_eq_true rfl), (Nat.le_of_ble_eq_true rfl)⟩ ?_
    refine lv_if_ne (tgt := 1281) hx hb dL_law_1235 (by decide) (fun c_13 => ?_) (fun c_13 => ?_)
    · have hF := q_if_f c_13 hF
      refine lv_iconst (v := 0) hx hb dL_law_1281 (by decide) ?_
      exact absurd hF (by decide)
    · have hF := q_if_t (by first | exact c_13 | exact Classical.not_not.mp c_13) hF
      refine lv_aload_n hx hb dL_law_1238 rfl (lv_at hl 1 rfl) ?_
      refine lv_bipush (v := 61) hx hb dL_law_1239 (by decide) ?_
      obtain ⟨⟨r_14, σP_15⟩, h_16, hF⟩ := q_cl_s hF
      try dsimp only at hF
      refine gcV_i (As := [.int 61]) (rest := []) (ci := 6) (q := (RX6, TX6, 8)) F hK hN hP hD hS hA (m_X6_say l g H.size qX AX AP σP (61 : Int32) r_14 σP_15 h_16) gL_law_X6_say kX6_say rfl rfl rfl rfl ⟨(Nat.le_of_ble_eq_true rfl), (Nat.le_of_ble_eq_true rfl)⟩ [0, 17, 18] [1, 2, 3, 4, 5, 6, 7, 8, 9, 10, 11, 12, 13, 14, 15, 16, 19, 20, 21, 22, 23, 24, 25, 26, 27, 28, 29, 30, 31] rfl rfl rfl (by decide) rfl rfl rfl rfl rfl hl.1 (Nat.le_of_ble_eq_true rfl) dL_law_1241 ⟨(Nat.le_of_ble_eq_true rfl), (Nat.le_of_ble_eq_true rfl)⟩ (fun r_w u_w H locs hw hP hD hS => ?_)
      have hP : va_P g.1 vwCl (wX6 qX AX ++ wX1 g (AX 0) AC σC_2 ++ wX1 g (AX 1) AD σD ++ wX3 g (AX 3) AP σP_15 ++ wX2 (AX 4) σN ++ wX5 g (AX 5) AW (.ref qH) σW_7 ++ wX4 g (AX 6) AY σY ++ wX0 g (AX 7) AK σK ℓK ++ wH g qH σH_8) H := hP.sub [29, 0, 1, 2, 3, 4, 5, 6, 7, 8, 9, 10, 11, 12, 13, 14, 15, 30, 31, 16, 17, 18, 19, 20, 21, 22, 23, 24, 25, 26, 27, 28] rfl
      have hD : va_D Z (wX6 qX AX ++ wX1 g (AX 0) AC σC_2 ++ wX1 g (AX 1) AD σD ++ wX3 g (AX 3) AP σP_15 ++ wX2 (AX 4) σN ++ wX5 g (AX 5) AW (.ref qH) σW_7 ++ wX4 g (AX 6) AY σY ++ wX0 g (AX 7) AK σK ℓK ++ wH g qH σH_8) := hD.sub [29, 0, 1, 2, 3, 4, 5, 6, 7, 8, 9, 10, 11, 12, 13, 14, 15, 30, 31, 16, 17, 18, 19, 20, 21, 22, 23, 24, 25, 26, 27, 28] (by decide) rfl
      obtain rfl : r_14 = r_w := hw.symm
      refine lv_iconst (v := 1) hx hb dL_law_1244 (by decide) ?_
      refine lv_icmp_ne (tgt := 1281) hx hb dL_law_1245 (by decide) (fun c_18 => ?_) (fun c_18 => ?_)
      · have hF := q_if_f c_18 hF
        refine lv_iconst (v := 0) hx hb dL_law_1281 (by decide) ?_
        exact absurd hF (by decide)
      · have hF := q_if_t (by first | exact c_18 | exact Classical.not_not.mp c_18) hF
        refine lv_aload_n hx hb dL_law_1248 rfl (lv_at hl 1 rfl) ?_
        refine lv_bipush (v := 51) hx hb dL_law_1249 (by decide) ?_
        obtain ⟨⟨r_19, σP_20⟩, h_21, hF⟩ := q_cl_s hF
        try dsimp only at hF
        refine gcV_i (As := [.int 51]) (rest := []) (ci := 6) (q := (RX6, TX6, 8)) F hK hN hP hD hS hA (m_X6_say l g H.size qX AX AP σP_15 (51 : Int32) r_19 σP_20 h_21) gL_law_X6_say kX6_say rfl rfl rfl rfl ⟨(Nat.le_of_ble_eq_true rfl), (Nat.le_of_ble_eq_true rfl)⟩ [0, 17, 18] [1, 2, 3, 4, 5, 6, 7, 8, 9, 10, 11, 12, 13, 14, 15, 16, 19, 20, 21, 22, 23, 24, 25, 26, 27, 28, 29, 30, 31] rfl rfl rfl (by decide) rfl rfl rfl rfl rfl hl.1 (Nat.le_of_ble_eq_true rfl) dL_law_1251 ⟨(Nat.le_of_ble_eq_true rfl), (Nat.le_of_ble_eq_true rfl)⟩ (fun r_w u_w H locs hw hP hD hS => ?_)
        have hP : va_P g.1 vwCl (wX6 qX AX ++ wX1 g (AX 0) AC σC_2 ++ wX1 g (AX 1) AD σD ++ wX3 g (AX 3) AP σP_20 ++ wX2 (AX 4) σN ++ wX5 g (AX 5) AW (.ref qH) σW_7 ++ wX4 g (AX 6) AY σY ++ wX0 g (AX 7) AK σK ℓK ++ wH g qH σH_8) H := hP.sub [29, 0, 1, 2, 3, 4, 5, 6, 7, 8, 9, 10, 11, 12, 13, 14, 15, 30, 31, 16, 17, 18, 19, 20, 21, 22, 23, 24, 25, 26, 27, 28] rfl
        have hD : va_D Z (wX6 qX AX ++ wX1 g (AX 0) AC σC_2 ++ wX1 g (AX 1) AD σD ++ wX3 g (AX 3) AP σP_20 ++ wX2 (AX 4) σN ++ wX5 g (AX 5) AW (.ref qH) σW_7 ++ wX4 g (AX 6) AY σY ++ wX0 g (AX 7) AK σK ℓK ++ wH g qH σH_8) := hD.sub [29, 0, 1, 2, 3, 4, 5, 6, 7, 8, 9, 10, 11, 12, 13, 14, 15, 30, 31, 16, 17, 18, 19, 20, 21, 22, 23, 24, 25, 26, 27, 28] (by decide) rfl
        obtain rfl : r_19 = r_w := hw.symm
        refine lv_iconst (v := 2) hx hb dL_law_1254 (by decide) ?_
        refine lv_icmp_ne (tgt := 1281) hx hb dL_law_1255 (by decide) (fun c_23 => ?_) (fun c_23 => ?_)
        · have hF := q_if_f c_23 hF
          refine lv_iconst (v := 0) hx hb dL_law_1281 (by decide) ?_
          exact absurd hF (by decide)
        · have hF := q_if_t (by first | exact c_23 | exact Classical.not_not.mp c_23) hF
          refine lv_aload_n hx hb dL_law_1258 rfl (lv_at hl 1 rfl) ?_
          refine lv_bipush (v := 57) hx hb dL_law_1259 (by decide) ?_
          obtain ⟨⟨r_24, σP_25⟩, h_26, hF⟩ := q_cl_s hF
          try dsimp only at hF
          refine gcV_i (As := [.int 57]) (rest := []) (ci := 6) (q := (RX6, TX6, 8)) F hK hN hP hD hS hA (m_X6_say l g H.size qX AX AP σP_20 (57 : Int32) r_24 σP_25 h_26) gL_law_X6_say kX6_say rfl rfl rfl rfl ⟨(Nat.le_of_ble_eq_true rfl), (Nat.le_of_ble_eq_true rfl)⟩ [0, 17, 18] [1, 2, 3, 4, 5, 6, 7, 8, 9, 10, 11, 12, 13, 14, 15, 16, 19, 20, 21, 22, 23, 24, 25, 26, 27, 28, 29, 30, 31] rfl rfl rfl (by decide) rfl rfl rfl rfl rfl hl.1 (Nat.le_of_ble_eq_true rfl) dL_law_1261 ⟨(Nat.le_of_ble_eq_true rfl), (Nat.le_of_ble_eq_true rfl)⟩ (fun r_w u_w H locs hw hP hD hS => ?_)
          have hP : va_P g.1 vwCl (wX6 qX AX ++ wX1 g (AX 0) AC σC_2 ++ wX1 g (AX 1) AD σD ++ wX3 g (AX 3) AP σP_25 ++ wX2 (AX 4) σN ++ wX5 g (AX 5) AW (.ref qH) σW_7 ++ wX4 g (AX 6) AY σY ++ wX0 g (AX 7) AK σK ℓK ++ wH g qH σH_8) H := hP.sub [29, 0, 1, 2, 3, 4, 5, 6, 7, 8, 9, 10, 11, 12, 13, 14, 15, 30, 31, 16, 17, 18, 19, 20, 21, 22, 23, 24, 25, 26, 27, 28] rfl
          have hD : va_D Z (wX6 qX AX ++ wX1 g (AX 0) AC σC_2 ++ wX1 g (AX 1) AD σD ++ wX3 g (AX 3) AP σP_25 ++ wX2 (AX 4) σN ++ wX5 g (AX 5) AW (.ref qH) σW_7 ++ wX4 g (AX 6) AY σY ++ wX0 g (AX 7) AK σK ℓK ++ wH g qH σH_8) := hD.sub [29, 0, 1, 2, 3, 4, 5, 6, 7, 8, 9, 10, 11, 12, 13, 14, 15, 30, 31, 16, 17, 18, 19, 20, 21, 22, 23, 24, 25, 26, 27, 28] (by decide) rfl
          obtain rfl : r_24 = r_w := hw.symm
          refine lv_iconst (v := 3) hx hb dL_law_1264 (by decide) ?_
          refine lv_icmp_ne (tgt := 1281) hx hb dL_law_1265 (by decide) (fun c_28 => ?_) (fun c_28 => ?_)
          · have hF := q_if_f c_28 hF
            refine lv_iconst (v := 0) hx hb dL_law_1281 (by decide) ?_
            exact absurd hF (by decide)
          · have hF := q_if_t (by first | exact c_28 | exact Classical.not_not.mp c_28) hF
            refine lv_aload_n hx hb dL_law_1268 rfl (lv_at hl 1 rfl) ?_
            refine lv_bipush (v := 65) hx hb dL_law_1269 (by decide) ?_
            refine lv_iload hx hb dL_law_1271 (lv_at hl 6 rfl) ?_
            refine lv_iadd hx hb dL_law_1273 ?_
            obtain ⟨⟨r_29, σP_30⟩, h_31, hF⟩ := q_cl_s hF
            try dsimp only at hF
            refine gcV_i (As := [.int ((65 : Int32) + v10)]) (rest := []) (ci := 6) (q := (RX6, TX6, 8)) F hK hN hP hD hS hA (m_X6_say l g H.size qX AX AP σP_25 ((65 : Int32) + v10) r_29 σP_30 h_31) gL_law_X6_say kX6_say rfl rfl rfl rfl ⟨(Nat.le_of_ble_eq_true rfl), (Nat.le_of_ble_eq_true rfl)⟩ [0, 17, 18] [1, 2, 3, 4, 5, 6, 7, 8, 9, 10, 11, 12, 13, 14, 15, 16, 19, 20, 21, 22, 23, 24, 25, 26, 27, 28, 29, 30, 31] rfl rfl rfl (by decide) rfl rfl rfl rfl rfl hl.1 (Nat.le_of_ble_eq_true rfl) dL_law_1274 ⟨(Nat.le_of_ble_eq_true rfl), (Nat.le_of_ble_eq_true rfl)⟩ (fun r_w u_w H locs hw hP hD hS => ?_)
            have hP : va_P g.1 vwCl (wX6 qX AX ++ wX1 g (AX 0) AC σC_2 ++ wX1 g (AX 1) AD σD ++ wX3 g (AX 3) AP σP_30 ++ wX2 (AX 4) σN ++ wX5 g (AX 5) AW (.ref qH) σW_7 ++ wX4 g (AX 6) AY σY ++ wX0 g (AX 7) AK σK ℓK ++ wH g qH σH_8) H := hP.sub [29, 0, 1, 2, 3, 4, 5, 6, 7, 8, 9, 10, 11, 12, 13, 14, 15, 30, 31, 16, 17, 18, 19, 20, 21, 22, 23, 24, 25, 26, 27, 28] rfl
            have hD : va_D Z (wX6 qX AX ++ wX1 g (AX 0) AC σC_2 ++ wX1 g (AX 1) AD σD ++ wX3 g (AX 3) AP σP_30 ++ wX2 (AX 4) σN ++ wX5 g (AX 5) AW (.ref qH) σW_7 ++ wX4 g (AX 6) AY σY ++ wX0 g (AX 7) AK σK ℓK ++ wH g qH σH_8) := hD.sub [29, 0, 1, 2, 3, 4, 5, 6, 7, 8, 9, 10, 11, 12, 13, 14, 15, 30, 31, 16, 17, 18, 19, 20, 21, 22, 23, 24, 25, 26, 27, 28] (by decide) rfl
            obtain rfl : r_29 = r_w := hw.symm
            refine lv_iconst (v := 4) hx hb dL_law_1277 (by decide) ?_
            refine lv_icmp_eq (tgt := 1283) hx hb dL_law_1278 (by decide) (fun c_33 => ?_) (fun c_33 => ?_)
            · have hF := q_if_t c_33 hF
              exact gs_1283 hx hb hr hlocks F hK hN hA hZ hbA hX hbl hF hP hD hS (lv_sub hl [0, 1, 2, 3, 4, 5, 6] rfl)
            · have hF := q_if_f c_33 hF
              refine lv_iconst (v := 0) hx hb dL_law_1281 (by decide) ?_
              exact absurd hF (by decide)
