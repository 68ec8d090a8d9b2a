set_option maxHeartbeats 8000000 in
set_option maxRecDepth 100000 in
theorem gs_1155 {p : Program} {l : Launch} {e : Env} {s : State} {m : MethodId} {below : List Frame} {meth : Method} {c : Code} {b : Nat} {g : GT} {Z : Nat → Prop} {H : Heap} {locs : List Loc} {ls : Array Slot} {qH qX : Nat} {AX AC AD AP AW AY AK : Nat → Nat} {L : Nat} {xs : Nat → Int32} {σC : qS} {σD : qS} {σP : qS} {σN : qS} {σW : qS} {σY : qS} {σK : qS} {ℓK : qL} {σH : qS} {v2 : Int32} {v4 : Int32} {v5 : Int32} {v6 : Int32} {v7 : Int32} {v9 : Int32} {v10 : Int32} {v11 : Int32} {v14 : Int32}
    (hx : p.tables.exec = Jvm.exec) (hb : c.code = cL_law) (hr : meth.sig.returnType = ret) (hlocks : meth.locks = false) (F : CallFix p m c cL_law 30 s #[Value.ref b] wsL_law RL) (hK : va_K g.1 vwCl (tyL g) s) (hN : NW s) (hA : ∀ q : Nat, s.heap.size ≤ q → Z q) (hZ : Z = fun q => s.heap.size ≤ q) (hbA : ¬ Z b) (hX : va_X b L xs s s.heap) (hbl : b < s.heap.size) (hF : g_1155 L xs σC σD σP σN σW σY σK ℓK σH v2 v4 v5 v6 v7 v9 v10 v11 v14 = some 1)
    (hP : va_P g.1 vwCl (wX6 qX AX ++ wX1 g (AX 0) AC σC ++ wX1 g (AX 1) AD σD ++ wX3 g (AX 3) AP σP ++ wX2 (AX 4) σN ++ wX5 g (AX 5) AW (.ref qH) σW ++ wX4 g (AX 6) AY σY ++ wX0 g (AX 7) AK σK ℓK ++ wH g qH σH) H) (hD : va_D Z (wX6 qX AX ++ wX1 g (AX 0) AC σC ++ wX1 g (AX 1) AD σD ++ wX3 g (AX 3) AP σP ++ wX2 (AX 4) σN ++ wX5 g (AX 5) AW (.ref qH) σW ++ wX4 g (AX 6) AY σY ++ wX0 g (AX 7) AK σK ℓK ++ wH g qH σH)) (hS : va_S Z s.heap H locs) (hl : lv_has ls 30 [(0, .ref b), (1, .ref qX), (2, .int v2), (4, .int v4), (5, .int v5), (6, .int v6), (7, .int v7), (9, .int v9), (10, .int v10), (11, .int v11), (14, .int v14)]) : W p l e room_1 s m #[Value.ref b] below meth c H locs 200 40000 (lw_Z below #[Value.ref b] s) (F0 m 1155 ls []) := by
  have hts := F.2.2.2.2
  have hown : s.vm.findClass RL = some m.cls := F.2.2.2.1
  dsimp only [g_1155] at hF
  refine lv_iload hx hb dL_law_1155 (lv_at hl 10 rfl) ?_
  refine lv_if_eq (tgt := 1208) hx hb dL_law_1157 (by decide) (fun c_1 => ?_) (fun c_1 => ?_)
  · have hF := q_if_t c_1 hF
    refine lv_iconst (v := 0) hx hb dL_law_1208 (by decide) ?_
    exact absurd hF (by decide)
  · have hF := q_if_f c_1 hF
    refine lv_iload hx hb dL_law_1160 (lv_at hl 5 rfl) ?_
    refine lv_if_ne (tgt := 1208) hx hb dL_law_1162 (by decide) (fun c_2 => ?_) (fun c_2 => ?_)
    · have hF := q_if_f c_2 hF
      refine lv_iconst (v := 0) hx hb dL_law_1208 (by decide) ?_
      exact absurd hF (by decide)
    · have hF := q_if_t (by first | exact c_2 | exact Classical.not_not.mp c_2) hF
      refine lv_aload_n hx hb dL_law_1165 rfl (lv_at hl 1 rfl) ?_
      refine lv_bipush (v := 42) hx hb dL_law_1166 (by decide) ?_
      obtain ⟨⟨r_3, σP_4⟩, h_5, hF⟩ := q_cl_s hF
      try dsimp only at hF
      refine gcV_i (As := [.int 42]) (rest := []) (ci := 6) (q := (RX6, TX6, 8)) F hK hN hP hD hS hA (m_X6_say l g H.size qX AX AP σP (42 : Int32) r_3 σP_4 h_5) gL_law_X6_say kX6_say rfl rfl rfl rfl ⟨(Nat.le_of_ble_eq_true rfl), (Nat.le_of_ble_eq_true rfl)⟩ [0, 17, 18] [1, 2, 3, 4, 5, 6, 7, 8, 9, 10, 11, 12, 13, 14, 15, 16, 19, 20, 21, 22, 23, 24, 25, 26, 27, 28, 29, 30, 31] rfl rfl rfl (by decide) rfl rfl rfl rfl rfl hl.1 (Nat.le_of_ble_eq_true rfl) dL_law_1168 ⟨(Nat.le_of_ble_eq_true rfl), (Nat.le_of_ble_eq_true rfl)⟩ (fun r_w u_w H locs hw hP hD hS => ?_)
      have hP : va_P g.1 vwCl (wX6 qX AX ++ wX1 g (AX 0) AC σC ++ wX1 g (AX 1) AD σD ++ wX3 g (AX 3) AP σP_4 ++ wX2 (AX 4) σN ++ wX5 g (AX 5) AW (.ref qH) σW ++ wX4 g (AX 6) AY σY ++ wX0 g (AX 7) AK σK ℓK ++ wH g qH σH) H := hP.sub [29, 0, 1, 2, 3, 4, 5, 6, 7, 8, 9, 10, 11, 12, 13, 14, 15, 30, 31, 16, 17, 18, 19, 20, 21, 22, 23, 24, 25, 26, 27, 28] rfl
      have hD : va_D Z (wX6 qX AX ++ wX1 g (AX 0) AC σC ++ wX1 g (AX 1) AD σD ++ wX3 g (AX 3) AP σP_4 ++ wX2 (AX 4) σN ++ wX5 g (AX 5) AW (.ref qH) σW ++ wX4 g (AX 6) AY σY ++ wX0 g (AX 7) AK σK ℓK ++ wH g qH σH) := hD.sub [29, 0, 1, 2, 3, 4, 5, 6, 7, 8, 9, 10, 11, 12, 13, 14, 15, 30, 31, 16, 17, 18, 19, 20, 21, 22, 23, 24, 25, 26, 27, 28] (by decide) rfl
      obtain rfl : r_3 = r_w := hw.symm
      refine lv_iload hx hb dL_law_1171 (lv_at hl 4 rfl) ?_
      refine lv_iconst (v := 1) hx hb dL_law_1173 (by decide) ?_
      refine lv_iadd hx hb dL_law_1174 ?_
      refine lv_icmp_ne (tgt := 1208) hx hb dL_law_1175 (by decide) (fun c_7 => ?_) (fun c_7 => ?_)
      · have hF := q_if_f c_7 hF
        refine lv_iconst (v := 0) hx hb dL_law_1208 (by decide) ?_
        exact absurd hF (by decide)
      · have hF := q_if_t (by first | exact c_7 | exact Classical.not_not.mp c_7) hF
        refine lv_aload_n hx hb dL_law_1178 rfl (lv_at hl 1 rfl) ?_
        refine lv_iconst (v := 0) hx hb dL_law_1179 (by decide) ?_
        obtain ⟨⟨r_8, σN_9, σD_10⟩, h_11, hF⟩ := q_cl_s hF
        try dsimp only at hF
        refine gcV_i (As := [.int 0]) (rest := []) (ci := 6) (q := (RX6, TX6, 8)) F hK hN hP hD hS hA (m_X6_judge l g H.size qX AX σN AP σP_4 AD σD AC σC (0 : Int32) r_8 σN_9 σD_10 h_11) gL_law_X6_judge kX6_judge rfl rfl rfl rfl ⟨(Nat.le_of_ble_eq_true rfl), (Nat.le_of_ble_eq_true rfl)⟩ [0, 19, 17, 18, 9, 10, 11, 12, 13, 14, 15, 16, 1, 2, 3, 4, 5, 6, 7, 8] [20, 21, 22, 23, 24, 25, 26, 27, 28, 29, 30, 31] rfl rfl rfl (by decide) rfl rfl rfl rfl rfl hl.1 (Nat.le_of_ble_eq_true rfl) dL_law_1180 ⟨(Nat.le_of_ble_eq_true rfl), (Nat.le_of_ble_eq_true rfl)⟩ (fun r_w u_w H locs hw hP hD hS => ?_)
        have hP : va_P g.1 vwCl (wX6 qX AX ++ wX1 g (AX 0) AC σC ++ wX1 g (AX 1) AD σD_10 ++ wX3 g (AX 3) AP σP_4 ++ wX2 (AX 4) σN_9 ++ wX5 g (AX 5) AW (.ref qH) σW ++ wX4 g (AX 6) AY σY ++ wX0 g (AX 7) AK σK ℓK ++ wH g qH σH) H := hP.sub [12, 24, 25, 26, 27, 28, 29, 30, 31, 16, 17, 18, 19, 20, 21, 22, 23, 14, 15, 13, 0, 1, 2, 3, 4, 5, 6, 7, 8, 9, 10, 11] rfl
        have hD : va_D Z (wX6 qX AX ++ wX1 g (AX 0) AC σC ++ wX1 g (AX 1) AD σD_10 ++ wX3 g (AX 3) AP σP_4 ++ wX2 (AX 4) σN_9 ++ wX5 g (AX 5) AW (.ref qH) σW ++ wX4 g (AX 6) AY σY ++ wX0 g (AX 7) AK σK ℓK ++ wH g qH σH) := hD.sub [12, 24, 25, 26, 27, 28, 29, 30, 31, 16, 17, 18, 19, 20, 21, 22, 23, 14, 15, 13, 0, 1, 2, 3, 4, 5, 6, 7, 8, 9, 10, 11] (by decide) rfl
        obtain rfl : r_8 = r_w := hw.symm
        refine lv_bipush (v := 19) hx hb dL_law_1183 (by decide) ?_
        refine lv_icmp_ne (tgt := 1208) hx hb dL_law_1185 (by decide) (fun c_13 => ?_) (fun c_13 => ?_)
        · have hF := q_if_f c_13 hF
          refine lv_iconst (v := 0) hx hb dL_law_1208 (by decide) ?_
          exact absurd hF (by decide)
        · have hF := q_if_t (by first | exact c_13 | exact Classical.not_not.mp c_13) hF
          refine lv_aload_n hx hb dL_law_1188 rfl (lv_at hl 1 rfl) ?_
          refine lv_iconst (v := 1) hx hb dL_law_1189 (by decide) ?_
          obtain ⟨⟨r_14, σN_15, σD_16⟩, h_17, hF⟩ := q_cl_s hF
          try dsimp only at hF
          refine gcV_i (As := [.int 1]) (rest := []) (ci := 6) (q := (RX6, TX6, 8)) F hK hN hP hD hS hA (m_X6_judge l g H.size qX AX σN_9 AP σP_4 AD σD_10 AC σC (1 : Int32) r_14 σN_15 σD_16 h_17) gL_law_X6_judge kX6_judge rfl rfl rfl rfl ⟨(Nat.le_of_ble_eq_true rfl), (Nat.le_of_ble_eq_true rfl)⟩ [0, 19, 17, 18, 9, 10, 11, 12, 13, 14, 15, 16, 1, 2, 3, 4, 5, 6, 7, 8] [20, 21, 22, 23, 24, 25, 26, 27, 28, 29, 30, 31] rfl rfl rfl (by decide) rfl rfl rfl rfl rfl hl.1 (Nat.le_of_ble_eq_true rfl) dL_law_1190 ⟨(Nat.le_of_ble_eq_true rfl), (Nat.le_of_ble_eq_true rfl)⟩ (fun r_w u_w H locs hw hP hD hS => ?_)
          have hP : va_P g.1 vwCl (wX6 qX AX ++ wX1 g (AX 0) AC σC ++ wX1 g (AX 1) AD σD_16 ++ wX3 g (AX 3) AP σP_4 ++ wX2 (AX 4) σN_15 ++ wX5 g (AX 5) AW (.ref qH) σW ++ wX4 g (AX 6) AY σY ++ wX0 g (AX 7) AK σK ℓK ++ wH g qH σH) H := hP.sub [12, 24, 25, 26, 27, 28, 29, 30, 31, 16, 17, 18, 19, 20, 21, 22, 23, 14, 15, 13, 0, 1, 2, 3, 4, 5, 6, 7, 8, 9, 10, 11] rfl
          have hD : va_D Z (wX6 qX AX ++ wX1 g (AX 0) AC σC ++ wX1 g (AX 1) AD σD_16 ++ wX3 g (AX 3) AP σP_4 ++ wX2 (AX 4) σN_15 ++ wX5 g (AX 5) AW (.ref qH) σW ++ wX4 g (AX 6) AY σY ++ wX0 g (AX 7) AK σK ℓK ++ wH g qH σH) := hD.sub [12, 24, 25, 26, 27, 28, 29, 30, 31, 16, 17, 18, 19, 20, 21, 22, 23, 14, 15, 13, 0, 1, 2, 3, 4, 5, 6, 7, 8, 9, 10, 11] (by decide) rfl
          obtain rfl : r_14 = r_w := hw.symm
          refine lv_iconst (v := 3) hx hb dL_law_1193 (by decide) ?_
          refine lv_icmp_ne (tgt := 1208) hx hb dL_law_1194 (by decide) (fun c_19 => ?_) (fun c_19 => ?_)
          · have hF := q_if_f c_19 hF
            refine lv_iconst (v := 0) hx hb dL_law_1208 (by decide) ?_
            exact absurd hF (by decide)
          · have hF := q_if_t (by first | exact c_19 | exact Classical.not_not.mp c_19) hF
            refine lv_aload_n hx hb dL_law_1197 rfl (lv_at hl 1 rfl) ?_
            obtain ⟨⟨r_20, σP_21⟩, h_22, hF⟩ := q_cl_s hF
            try dsimp only at hF
            refine gcV_i (As := []) (rest := []) (ci := 6) (q := (RX6, TX6, 8)) F hK hN hP hD hS hA (m_X6_wipe l g H.size qX AX AP σP_4 r_20 σP_21 h_22) gL_law_X6_wipe kX6_wipe rfl rfl rfl rfl ⟨(Nat.le_of_ble_eq_true rfl), (Nat.le_of_ble_eq_true rfl)⟩ [0, 17, 18] [1, 2, 3, 4, 5, 6, 7, 8, 9, 10, 11, 12, 13, 14, 15, 16, 19, 20, 21, 22, 23, 24, 25, 26, 27, 28, 29, 30, 31] rfl rfl rfl (by decide) rfl rfl rfl rfl rfl hl.1 (Nat.le_of_ble_eq_true rfl) dL_law_1198 ⟨(Nat.le_of_ble_eq_true rfl), (Nat.le_of_ble_eq_true rfl)⟩ (fun r_w u_w H locs hw hP hD hS => ?_)
            have hP : va_P g.1 vwCl (wX6 qX AX ++ wX1 g (AX 0) AC σC ++ wX1 g (AX 1) AD σD_16 ++ wX3 g (AX 3) AP σP_21 ++ wX2 (AX 4) σN_15 ++ wX5 g (AX 5) AW (.ref qH) σW ++ wX4 g (AX 6) AY σY ++ wX0 g (AX 7) AK σK ℓK ++ wH g qH σH) H := hP.sub [29, 0, 1, 2, 3, 4, 5, 6, 7, 8, 9, 10, 11, 12, 13, 14, 15, 30, 31, 16, 17, 18, 19, 20, 21, 22, 23, 24, 25, 26, 27, 28] rfl
            have hD : va_D Z (wX6 qX AX ++ wX1 g (AX 0) AC σC ++ wX1 g (AX 1) AD σD_16 ++ wX3 g (AX 3) AP σP_21 ++ wX2 (AX 4) σN_15 ++ wX5 g (AX 5) AW (.ref qH) σW ++ wX4 g (AX 6) AY σY ++ wX0 g (AX 7) AK σK ℓK ++ wH g qH σH) := hD.sub [29, 0, 1, 2, 3, 4, 5, 6, 7, 8, 9, 10, 11, 12, 13, 14, 15, 30, 31, 16, 17, 18, 19, 20, 21, 22, 23, 24, 25, 26, 27, 28] (by decide) rfl
            obtain rfl : r_20 = r_w := hw.symm
            refine lv_iload hx hb dL_law_1201 (lv_at hl 4 rfl) ?_
            refine lv_iconst (v := 1) hx hb dL_law_1203 (by decide) ?_
            refine lv_iadd hx hb dL_law_1204 ?_
            refine lv_icmp_eq (tgt := 1210) hx hb dL_law_1205 (by decide) (fun c_24 => ?_) (fun c_24 => ?_)
            · have hF := q_if_t c_24 hF
              exact gs_1210 hx hb hr hlocks F hK hN hA hZ hbA hX hbl hF hP hD hS (lv_sub hl [0, 1, 2, 3, 6, 7, 8, 9] rfl)
            · have hF := q_if_f c_24 hF
              refine lv_iconst (v := 0) hx hb dL_law_1208 (by decide) ?_
              exact absurd hF (by decide)
