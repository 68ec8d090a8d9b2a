set_option maxHeartbeats 8000000 in
set_option maxRecDepth 100000 in
theorem gs_2028 {p : Program} {l : Launch} {e : Env} {s : State} {m : MethodId} {below : List Frame} {meth : Method} {c : Code} {b : Nat} {g : GT} {Z : Nat → Prop} {H : Heap} {locs : List Loc} {ls : Array Slot} {qH qX : Nat} {AX AC AD AP AW AY AK : Nat → Nat} {L : Nat} {xs : Nat → Int32} {σC : qS} {σD : qS} {σP : qS} {σN : qS} {σW : qS} {σY : qS} {σK : qS} {ℓK : qL} {σH : qS} {v2 : Int32} {v4 : Int32} {v7 : Int32} {v9 : Int32} {v18 : Int32} {v19 : Int32} {v20 : Int32} {v21 : Int32}
    (hx : p.tables.exec = Jvm.exec) (hb : c.code = cL_law) (hr : meth.sig.returnType = ret) (hlocks : meth.locks = false) (F : CallFix p m c cL_law 30 s #[Value.ref b] wsL_law RL) (hK : va_K g.1 vwCl (tyL g) s) (hN : NW s) (hA : ∀ q : Nat, s.heap.size ≤ q → Z q) (hZ : Z = fun q => s.heap.size ≤ q) (hbA : ¬ Z b) (hX : va_X b L xs s s.heap) (hbl : b < s.heap.size) (hF : g_2028 L xs σC σD σP σN σW σY σK ℓK σH v2 v4 v7 v9 v18 v19 v20 v21 = some 1)
    (hP : va_P g.1 vwCl (wX6 qX AX ++ wX1 g (AX 0) AC σC ++ wX1 g (AX 1) AD σD ++ wX3 g (AX 3) AP σP ++ wX2 (AX 4) σN ++ wX5 g (AX 5) AW (.ref qH) σW ++ wX4 g (AX 6) AY σY ++ wX0 g (AX 7) AK σK ℓK ++ wH g qH σH) H) (hD : va_D Z (wX6 qX AX ++ wX1 g (AX 0) AC σC ++ wX1 g (AX 1) AD σD ++ wX3 g (AX 3) AP σP ++ wX2 (AX 4) σN ++ wX5 g (AX 5) AW (.ref qH) σW ++ wX4 g (AX 6) AY σY ++ wX0 g (AX 7) AK σK ℓK ++ wH g qH σH)) (hS : va_S Z s.heap H locs) (hl : lv_has ls 30 [(0, .ref b), (1, .ref qX), (2, .int v2), (4, .int v4), (7, .int v7), (9, .int v9), (18, .int v18), (19, .int v19), (20, .int v20), (21, .int v21)]) : W p l e room_1 s m #[Value.ref b] below meth c H locs 200 40000 (lw_Z below #[Value.ref b] s) (F0 m 2028 ls []) := by
  have hts := F.2.2.2.2
  have hown : s.vm.findClass RL = some m.cls := F.2.2.2.1
  dsimp only [g_2028] at hF
  refine lv_iconst (v := 0) hx hb dL_law_2028 (by decide) ?_
  refine lv_istore (lv' := [(22, .int 0), (0, .ref b), (1, .ref qX), (2, .int v2), (4, .int v4), (7, .int v7), (9, .int v9), (18, .int v18), (19, .int v19), (20, .int v20), (21, .int v21)]) hx hb dL_law_2029 hl (by decide) rfl (fun ls hl => ?_)
  refine q_loop (fun u0 => wX6 qX AX ++ wX1 g (AX 0) AC σC ++ wX1 g (AX 1) AD σD ++ wX3 g (AX 3) AP σP ++ wX2 (AX 4) σN ++ wX5 g (AX 5) AW (.ref qH) σW ++ wX4 g (AX 6) AY u0.2 ++ wX0 g (AX 7) AK σK ℓK ++ wH g qH σH) (fun u0 => [(22, .int u0.1), (0, .ref b), (1, .ref qX), (2, .int v2), (4, .int v4), (7, .int v7), (9, .int v9), (18, .int v18), (19, .int v19), (20, .int v20), (21, .int v21)]) 2108 hF ?_ ?_ hP hD hS (lv_sub hl [0, 1, 2, 3, 4, 5, 6, 7, 8, 9, 10] rfl)
  · rintro ⟨v22_1, σY_1⟩ hF H locs ls hP hD hS hl
    try dsimp only at hF
    have hP : va_P g.1 vwCl (wX6 qX AX ++ wX1 g (AX 0) AC σC ++ wX1 g (AX 1) AD σD ++ wX3 g (AX 3) AP σP ++ wX2 (AX 4) σN ++ wX5 g (AX 5) AW (.ref qH) σW ++ wX4 g (AX 6) AY σY_1 ++ wX0 g (AX 7) AK σK ℓK ++ wH g qH σH) H := hP
    have hD : va_D Z (wX6 qX AX ++ wX1 g (AX 0) AC σC ++ wX1 g (AX 1) AD σD ++ wX3 g (AX 3) AP σP ++ wX2 (AX 4) σN ++ wX5 g (AX 5) AW (.ref qH) σW ++ wX4 g (AX 6) AY σY_1 ++ wX0 g (AX 7) AK σK ℓK ++ wH g qH σH) := hD
    have hl : lv_has ls 30 [(22, .int v22_1), (0, .ref b), (1, .ref qX), (2, .int v2), (4, .int v4), (7, .int v7), (9, .int v9), (18, .int v18), (19, .int v19), (20, .int v20), (21, .int v21)] := hl
    exact gs_2108 hx hb hr hlocks F hK hN hA hZ hbA hX hbl hF hP hD hS (lv_sub hl [1, 2, 3, 4, 5, 6, 9] rfl)
  · rintro k again kk ag ⟨v22_1, σY_1⟩ hF H locs ls hP hD hS hl
    dsimp only [b_L_law_2031] at hF
    have hP : va_P g.1 vwCl (wX6 qX AX ++ wX1 g (AX 0) AC σC ++ wX1 g (AX 1) AD σD ++ wX3 g (AX 3) AP σP ++ wX2 (AX 4) σN ++ wX5 g (AX 5) AW (.ref qH) σW ++ wX4 g (AX 6) AY σY_1 ++ wX0 g (AX 7) AK σK ℓK ++ wH g qH σH) H := hP
    have hD : va_D Z (wX6 qX AX ++ wX1 g (AX 0) AC σC ++ wX1 g (AX 1) AD σD ++ wX3 g (AX 3) AP σP ++ wX2 (AX 4) σN ++ wX5 g (AX 5) AW (.ref qH) σW ++ wX4 g (AX 6) AY σY_1 ++ wX0 g (AX 7) AK σK ℓK ++ wH g qH σH) := hD
    have hl : lv_has ls 30 [(22, .int v22_1), (0, .ref b), (1, .ref qX), (2, .int v2), (4, .int v4), (7, .int v7), (9, .int v9), (18, .int v18), (19, .int v19), (20, .int v20), (21, .int v21)] := hl
    refine lv_iload hx hb dL_law_2031 (lv_at hl 0 rfl) ?_
    refine lv_iload hx hb dL_law_2033 (lv_at hl 10 rfl) ?_
    refine lv_icmp_ge (tgt := 2108) hx hb dL_law_2035 (by decide) (fun c_2 => ?_) (fun c_2 => ?_)
    · have hF := q_if_t c_2 hF
      exact kk (v22_1, σY_1) hF _ _ _ hP hD hS (lv_sub hl [0, 1, 2, 3, 4, 5, 6, 7, 8, 9, 10] rfl)
    · have hF := q_if_f c_2 hF
      refine lv_iload hx hb dL_law_2038 (lv_at hl 9 rfl) ?_
      refine lv_bipush (v := 8) hx hb dL_law_2040 (by decide) ?_
      refine lv_icmp_ge (tgt := 2108) hx hb dL_law_2042 (by decide) (fun c_3 => ?_) (fun c_3 => ?_)
      · have hF := q_if_t c_3 hF
        exact kk (v22_1, σY_1) hF _ _ _ hP hD hS (lv_sub hl [0, 1, 2, 3, 4, 5, 6, 7, 8, 9, 10] rfl)
      · have hF := q_if_f c_3 hF
        refine lv_aload_n hx hb dL_law_2045 rfl (lv_at hl 2 rfl) ?_
        refine lv_iload hx hb dL_law_2046 (lv_at hl 0 rfl) ?_
        obtain ⟨⟨r_4, σY_5⟩, h_6, hF⟩ := q_cl_s hF
        try dsimp only at hF
        refine gcV_i (As := [.int v22_1]) (rest := []) (ci := 6) (q := (RX6, TX6, 8)) F hK hN hP hD hS hA (m_X6_fits l g H.size qX AX AY σY_1 AC σC v22_1 r_4 σY_5 h_6) gL_law_X6_fits kX6_fits rfl rfl rfl rfl ⟨(Nat.le_of_ble_eq_true rfl), (Nat.le_of_ble_eq_true rfl)⟩ [0, 23, 24, 25, 26, 1, 2, 3, 4, 5, 6, 7, 8] [9, 10, 11, 12, 13, 14, 15, 16, 17, 18, 19, 20, 21, 22, 27, 28, 29, 30, 31] rfl rfl rfl (by decide) rfl rfl rfl rfl rfl hl.1 (Nat.le_of_ble_eq_true rfl) dL_law_2048 ⟨(Nat.le_of_ble_eq_true rfl), (Nat.le_of_ble_eq_true rfl)⟩ (fun r_w u_w H locs hw hP hD hS => ?_)
        have hP : va_P g.1 vwCl ([((AX 1), .inr (1, oC AD (σD 99))), aI g (AD 0) 121 (σD 0), aI g (AD 1) 10 (σD 1), aI g (AD 2) 10 (σD 2), aI g (AD 3) 10 (σD 3), aI g (AD 4) 10 (σD 4), aI g (AD 5) 8 (σD 5), aI g (AD 6) 8 (σD 6), ((AX 3), .inr (3, oX3 AP (σP 99))), aI g (AP 0) 60 (σP 0), ((AX 4), .inr (2, oX2 (σN 99))), ((AX 5), .inr (5, oX5 AW (.ref qH))), aI g (AW 0) 121 (σW 0), aI g (AW 1) 11 (σW 1), ((AX 7), .inr (0, oX0 AK)), aJ g (AK 0) 11 (ℓK 0), aJ g (AK 1) 11 (ℓK 1), aI g (AK 2) 61 (σK 2), aI g qH 10240 (σH 0), (qX, .inr (6, oX6 AX)), ((AX 6), .inr (4, oX4 AY (σY_5 99))), aI g (AY 0) 410 (σY_5 0), aI g (AY 1) 50 (σY_5 1), aI g (AY 2) 10 (σY_5 2), ((AX 0), .inr (1, oC AC (σC 99))), aI g (AC 0) 121 (σC 0), aI g (AC 1) 10 (σC 1), aI g (AC 2) 10 (σC 2), aI g (AC 3) 10 (σC 3), aI g (AC 4) 10 (σC 4), aI g (AC 5) 8 (σC 5), aI g (AC 6) 8 (σC 6)]) H := hP
        have hD : va_D Z ([((AX 1), .inr (1, oC AD (σD 99))), aI g (AD 0) 121 (σD 0), aI g (AD 1) 10 (σD 1), aI g (AD 2) 10 (σD 2), aI g (AD 3) 10 (σD 3), aI g (AD 4) 10 (σD 4), aI g (AD 5) 8 (σD 5), aI g (AD 6) 8 (σD 6), ((AX 3), .inr (3, oX3 AP (σP 99))), aI g (AP 0) 60 (σP 0), ((AX 4), .inr (2, oX2 (σN 99))), ((AX 5), .inr (5, oX5 AW (.ref qH))), aI g (AW 0) 121 (σW 0), aI g (AW 1) 11 (σW 1), ((AX 7), .inr (0, oX0 AK)), aJ g (AK 0) 11 (ℓK 0), aJ g (AK 1) 11 (ℓK 1), aI g (AK 2) 61 (σK 2), aI g qH 10240 (σH 0), (qX, .inr (6, oX6 AX)), ((AX 6), .inr (4, oX4 AY (σY_5 99))), aI g (AY 0) 410 (σY_5 0), aI g (AY 1) 50 (σY_5 1), aI g (AY 2) 10 (σY_5 2), ((AX 0), .inr (1, oC AC (σC 99))), aI g (AC 0) 121 (σC 0), aI g (AC 1) 10 (σC 1), aI g (AC 2) 10 (σC 2), aI g (AC 3) 10 (σC 3), aI g (AC 4) 10 (σC 4), aI g (AC 5) 8 (σC 5), aI g (AC 6) 8 (σC 6)]) := hD
        have hP : va_P g.1 vwCl (wX6 qX AX ++ wX1 g (AX 0) AC σC ++ wX1 g (AX 1) AD σD ++ wX3 g (AX 3) AP σP ++ wX2 (AX 4) σN ++ wX5 g (AX 5) AW (.ref qH) σW ++ wX4 g (AX 6) AY σY_5 ++ wX0 g (AX 7) AK σK ℓK ++ wH g qH σH) H := hP.sub [19, 24, 25, 26, 27, 28, 29, 30, 31, 0, 1, 2, 3, 4, 5, 6, 7, 8, 9, 10, 11, 12, 13, 20, 21, 22, 23, 14, 15, 16, 17, 18] rfl
        have hD : va_D Z (wX6 qX AX ++ wX1 g (AX 0) AC σC ++ wX1 g (AX 1) AD σD ++ wX3 g (AX 3) AP σP ++ wX2 (AX 4) σN ++ wX5 g (AX 5) AW (.ref qH) σW ++ wX4 g (AX 6) AY σY_5 ++ wX0 g (AX 7) AK σK ℓK ++ wH g qH σH) := hD.sub [19, 24, 25, 26, 27, 28, 29, 30, 31, 0, 1, 2, 3, 4, 5, 6, 7, 8, 9, 10, 11, 12, 13, 20, 21, 22, 23, 14, 15, 16, 17, 18] (by decide) rfl
        obtain rfl : r_4 = r_w := hw.symm
        refine lv_istore (lv' := [(23, .int r_4), (22, .int v22_1), (0, .ref b), (1, .ref qX), (2, .int v2), (4, .int v4), (7, .int v7), (9, .int v9), (18, .int v18), (19, .int v19), (20, .int v20), (21, .int v21)]) hx hb dL_law_2051 hl (by decide) rfl (fun ls hl => ?_)
        refine lv_iconst (v := 0) hx hb dL_law_2053 (by decide) ?_
        refine lv_istore (lv' := [(24, .int 0), (23, .int r_4), (22, .int v22_1), (0, .ref b), (1, .ref qX), (2, .int v2), (4, .int v4), (7, .int v7), (9, .int v9), (18, .int v18), (19, .int v19), (20, .int v20), (21, .int v21)]) hx hb dL_law_2054 hl (by decide) rfl (fun ls hl => ?_)
        refine q_loop (fun u0 => wX6 qX AX ++ wX1 g (AX 0) AC σC ++ wX1 g (AX 1) AD σD ++ wX3 g (AX 3) AP σP ++ wX2 (AX 4) σN ++ wX5 g (AX 5) AW (.ref qH) σW ++ wX4 g (AX 6) AY σY_5 ++ wX0 g (AX 7) AK σK ℓK ++ wH g qH σH) (fun u0 => [(24, .int u0), (23, .int r_4), (22, .int v22_1), (0, .ref b), (1, .ref qX), (2, .int v2), (4, .int v4), (7, .int v7), (9, .int v9), (18, .int v18), (19, .int v19), (20, .int v20), (21, .int v21)]) 2102 hF ?_ ?_ hP hD hS (lv_sub hl [0, 1, 2, 3, 4, 5, 6, 7, 8, 9, 10, 11, 12] rfl)
        · rintro v24_8 hF H locs ls hP hD hS hl
          try dsimp only at hF
          have hP : va_P g.1 vwCl (wX6 qX AX ++ wX1 g (AX 0) AC σC ++ wX1 g (AX 1) AD σD ++ wX3 g (AX 3) AP σP ++ wX2 (AX 4) σN ++ wX5 g (AX 5) AW (.ref qH) σW ++ wX4 g (AX 6) AY σY_5 ++ wX0 g (AX 7) AK σK ℓK ++ wH g qH σH) H := hP
          have hD : va_D Z (wX6 qX AX ++ wX1 g (AX 0) AC σC ++ wX1 g (AX 1) AD σD ++ wX3 g (AX 3) AP σP ++ wX2 (AX 4) σN ++ wX5 g (AX 5) AW (.ref qH) σW ++ wX4 g (AX 6) AY σY_5 ++ wX0 g (AX 7) AK σK ℓK ++ wH g qH σH) := hD
          have hl : lv_has ls 30 [(24, .int v24_8), (23, .int r_4), (22, .int v22_1), (0, .ref b), (1, .ref qX), (2, .int v2), (4, .int v4), (7, .int v7), (9, .int v9), (18, .int v18), (19, .int v19), (20, .int v20), (21, .int v21)] := hl
          refine lv_iinc (v := v22_1 + 1) (lv' := [(22, .int (v22_1 + 1)), (24, .int v24_8), (23, .int r_4), (0, .ref b), (1, .ref qX), (2, .int v2), (4, .int v4), (7, .int v7), (9, .int v9), (18, .int v18), (19, .int v19), (20, .int v20), (21, .int v21)]) hx hb dL_law_2102 hl (k := 2) rfl rfl (by decide) rfl (fun ls hl => ?_)
          refine lv_goto (tgt := 2031) hx hb dL_law_2105 (by decide) ?_
          exact ag (v22_1 + 1, σY_5) hF _ _ _ hP hD hS (lv_sub hl [0, 3, 4, 5, 6, 7, 8, 9, 10, 11, 12] rfl)
        · rintro k again kk ag v24_8 hF H locs ls hP hD hS hl
          dsimp only [b_L_law_2056] at hF
          have hP : va_P g.1 vwCl (wX6 qX AX ++ wX1 g (AX 0) AC σC ++ wX1 g (AX 1) AD σD ++ wX3 g (AX 3) AP σP ++ wX2 (AX 4) σN ++ wX5 g (AX 5) AW (.ref qH) σW ++ wX4 g (AX 6) AY σY_5 ++ wX0 g (AX 7) AK σK ℓK ++ wH g qH σH) H := hP
          have hD : va_D Z (wX6 qX AX ++ wX1 g (AX 0) AC σC ++ wX1 g (AX 1) AD σD ++ wX3 g (AX 3) AP σP ++ wX2 (AX 4) σN ++ wX5 g (AX 5) AW (.ref qH) σW ++ wX4 g (AX 6) AY σY_5 ++ wX0 g (AX 7) AK σK ℓK ++ wH g qH σH) := hD
          have hl : lv_has ls 30 [(24, .int v24_8), (23, .int r_4), (22, .int v22_1), (0, .ref b), (1, .ref qX), (2, .int v2), (4, .int v4), (7, .int v7), (9, .int v9), (18, .int v18), (19, .int v19), (20, .int v20), (21, .int v21)] := hl
          refine lv_iload hx hb dL_law_2056 (lv_at hl 0 rfl) ?_
          refine lv_bipush (v := 41) hx hb dL_law_2058 (by decide) ?_
          refine lv_icmp_ge (tgt := 2102) hx hb dL_law_2060 (by decide) (fun c_9 => ?_) (fun c_9 => ?_)
          · have hF := q_if_t c_9 hF
            exact kk v24_8 hF _ _ _ hP hD hS (lv_sub hl [0, 1, 2, 3, 4, 5, 6, 7, 8, 9, 10, 11, 12] rfl)
          · have hF := q_if_f c_9 hF
            refine lv_aload_n hx hb dL_law_2063 rfl (lv_at hl 4 rfl) ?_
            refine lv_iload hx hb dL_law_2064 (lv_at hl 1 rfl) ?_
            refine lv_bipush (v := 10) hx hb dL_law_2066 (by decide) ?_
            refine lv_idiv hx hb dL_law_2068 (by decide) ?_
            refine lv_iload hx hb dL_law_2069 (lv_at hl 0 rfl) ?_
            refine lv_iload hx hb dL_law_2071 (lv_at hl 1 rfl) ?_
            refine lv_bipush (v := 10) hx hb dL_law_2073 (by decide) ?_
            refine lv_irem hx hb dL_law_2075 (by decide) ?_
            obtain ⟨n_10, hF⟩ := q_nz_s hF
            refine lv_idiv hx hb dL_law_2076 n_10 ?_
            obtain ⟨r_11, h_12, hF⟩ := q_cl_s hF
            refine gcV_i (As := [.int (r_4 / 10), .int (v24_8 / (r_4 - r_4 / 10 * 10))]) (rest := []) (ci := 6) (q := (RX6, TX6, 8)) F hK hN hP hD hS hA (m_X6_faded l g H.size qX AX AC σC (r_4 / 10) (v24_8 / (r_4 - r_4 / 10 * 10)) r_11 h_12) gL_law_X6_faded kX6_faded rfl rfl rfl rfl ⟨(Nat.le_of_ble_eq_true rfl), (Nat.le_of_ble_eq_true rfl)⟩ [0, 1, 2, 3, 4, 5, 6, 7, 8] [9, 10, 11, 12, 13, 14, 15, 16, 17, 18, 19, 20, 21, 22, 23, 24, 25, 26, 27, 28, 29, 30, 31] rfl rfl rfl (by decide) rfl rfl rfl rfl rfl hl.1 (Nat.le_of_ble_eq_true rfl) dL_law_2077 ⟨(Nat.le_of_ble_eq_true rfl), (Nat.le_of_ble_eq_true rfl)⟩ (fun r_w u_w H locs hw hP hD hS => ?_)
            have hP : va_P g.1 vwCl ([((AX 1), .inr (1, oC AD (σD 99))), aI g (AD 0) 121 (σD 0), aI g (AD 1) 10 (σD 1), aI g (AD 2) 10 (σD 2), aI g (AD 3) 10 (σD 3), aI g (AD 4) 10 (σD 4), aI g (AD 5) 8 (σD 5), aI g (AD 6) 8 (σD 6), ((AX 3), .inr (3, oX3 AP (σP 99))), aI g (AP 0) 60 (σP 0), ((AX 4), .inr (2, oX2 (σN 99))), ((AX 5), .inr (5, oX5 AW (.ref qH))), aI g (AW 0) 121 (σW 0), aI g (AW 1) 11 (σW 1), ((AX 6), .inr (4, oX4 AY (σY_5 99))), aI g (AY 0) 410 (σY_5 0), aI g (AY 1) 50 (σY_5 1), aI g (AY 2) 10 (σY_5 2), ((AX 7), .inr (0, oX0 AK)), aJ g (AK 0) 11 (ℓK 0), aJ g (AK 1) 11 (ℓK 1), aI g (AK 2) 61 (σK 2), aI g qH 10240 (σH 0), (qX, .inr (6, oX6 AX)), ((AX 0), .inr (1, oC AC (σC 99))), aI g (AC 0) 121 (σC 0), aI g (AC 1) 10 (σC 1), aI g (AC 2) 10 (σC 2), aI g (AC 3) 10 (σC 3), aI g (AC 4) 10 (σC 4), aI g (AC 5) 8 (σC 5), aI g (AC 6) 8 (σC 6)]) H := hP
            have hD : va_D Z ([((AX 1), .inr (1, oC AD (σD 99))), aI g (AD 0) 121 (σD 0), aI g (AD 1) 10 (σD 1), aI g (AD 2) 10 (σD 2), aI g (AD 3) 10 (σD 3), aI g (AD 4) 10 (σD 4), aI g (AD 5) 8 (σD 5), aI g (AD 6) 8 (σD 6), ((AX 3), .inr (3, oX3 AP (σP 99))), aI g (AP 0) 60 (σP 0), ((AX 4), .inr (2, oX2 (σN 99))), ((AX 5), .inr (5, oX5 AW (.ref qH))), aI g (AW 0) 121 (σW 0), aI g (AW 1) 11 (σW 1), ((AX 6), .inr (4, oX4 AY (σY_5 99))), aI g (AY 0) 410 (σY_5 0), aI g (AY 1) 50 (σY_5 1), aI g (AY 2) 10 (σY_5 2), ((AX 7), .inr (0, oX0 AK)), aJ g (AK 0) 11 (ℓK 0), aJ g (AK 1) 11 (ℓK 1), aI g (AK 2) 61 (σK 2), aI g qH 10240 (σH 0), (qX, .inr (6, oX6 AX)), ((AX 0), .inr (1, oC AC (σC 99))), aI g (AC 0) 121 (σC 0), aI g (AC 1) 10 (σC 1), aI g (AC 2) 10 (σC 2), aI g (AC 3) 10 (σC 3), aI g (AC 4) 10 (σC 4), aI g (AC 5) 8 (σC 5), aI g (AC 6) 8 (σC 6)]) := hD
            have hP : va_P g.1 vwCl (wX6 qX AX ++ wX1 g (AX 0) AC σC ++ wX1 g (AX 1) AD σD ++ wX3 g (AX 3) AP σP ++ wX2 (AX 4) σN ++ wX5 g (AX 5) AW (.ref qH) σW ++ wX4 g (AX 6) AY σY_5 ++ wX0 g (AX 7) AK σK ℓK ++ wH g qH σH) H := hP.sub [23, 24, 25, 26, 27, 28, 29, 30, 31, 0, 1, 2, 3, 4, 5, 6, 7, 8, 9, 10, 11, 12, 13, 14, 15, 16, 17, 18, 19, 20, 21, 22] rfl
            have hD : va_D Z (wX6 qX AX ++ wX1 g (AX 0) AC σC ++ wX1 g (AX 1) AD σD ++ wX3 g (AX 3) AP σP ++ wX2 (AX 4) σN ++ wX5 g (AX 5) AW (.ref qH) σW ++ wX4 g (AX 6) AY σY_5 ++ wX0 g (AX 7) AK σK ℓK ++ wH g qH σH) := hD.sub [23, 24, 25, 26, 27, 28, 29, 30, 31, 0, 1, 2, 3, 4, 5, 6, 7, 8, 9, 10, 11, 12, 13, 14, 15, 16, 17, 18, 19, 20, 21, 22] (by decide) rfl
            obtain rfl : r_11 = r_w := hw.symm
            refine lv_aload_n hx hb dL_law_2080 rfl (lv_at hl 4 rfl) ?_
            refine lv_iload hx hb dL_law_2081 (lv_at hl 9 rfl) ?_
            refine lv_iload hx hb dL_law_2083 (lv_at hl 0 rfl) ?_
            refine lv_iload hx hb dL_law_2085 (lv_at hl 10 rfl) ?_
            obtain ⟨n_13, hF⟩ := q_nz_s hF
            refine lv_idiv hx hb dL_law_2087 n_13 ?_
            obtain ⟨r_14, h_15, hF⟩ := q_cl_s hF
            refine gcV_i (As := [.int v18, .int (v24_8 / v19)]) (rest := [.int r_11]) (ci := 6) (q := (RX6, TX6, 8)) F hK hN hP hD hS hA (m_X6_faded l g H.size qX AX AC σC v18 (v24_8 / v19) r_14 h_15) gL_law_X6_faded kX6_faded rfl rfl rfl rfl ⟨(Nat.le_of_ble_eq_true rfl), (Nat.le_of_ble_eq_true rfl)⟩ [0, 1, 2, 3, 4, 5, 6, 7, 8] [9, 10, 11, 12, 13, 14, 15, 16, 17, 18, 19, 20, 21, 22, 23, 24, 25, 26, 27, 28, 29, 30, 31] rfl rfl rfl (by decide) rfl rfl rfl rfl rfl hl.1 (Nat.le_of_ble_eq_true rfl) dL_law_2088 ⟨(Nat.le_of_ble_eq_true rfl), (Nat.le_of_ble_eq_true rfl)⟩ (fun r_w u_w H locs hw hP hD hS => ?_)
            have hP : va_P g.1 vwCl ([((AX 1), .inr (1, oC AD (σD 99))), aI g (AD 0) 121 (σD 0), aI g (AD 1) 10 (σD 1), aI g (AD 2) 10 (σD 2), aI g (AD 3) 10 (σD 3), aI g (AD 4) 10 (σD 4), aI g (AD 5) 8 (σD 5), aI g (AD 6) 8 (σD 6), ((AX 3), .inr (3, oX3 AP (σP 99))), aI g (AP 0) 60 (σP 0), ((AX 4), .inr (2, oX2 (σN 99))), ((AX 5), .inr (5, oX5 AW (.ref qH))), aI g (AW 0) 121 (σW 0), aI g (AW 1) 11 (σW 1), ((AX 6), .inr (4, oX4 AY (σY_5 99))), aI g (AY 0) 410 (σY_5 0), aI g (AY 1) 50 (σY_5 1), aI g (AY 2) 10 (σY_5 2), ((AX 7), .inr (0, oX0 AK)), aJ g (AK 0) 11 (ℓK 0), aJ g (AK 1) 11 (ℓK 1), aI g (AK 2) 61 (σK 2), aI g qH 10240 (σH 0), (qX, .inr (6, oX6 AX)), ((AX 0), .inr (1, oC AC (σC 99))), aI g (AC 0) 121 (σC 0), aI g (AC 1) 10 (σC 1), aI g (AC 2) 10 (σC 2), aI g (AC 3) 10 (σC 3), aI g (AC 4) 10 (σC 4), aI g (AC 5) 8 (σC 5), aI g (AC 6) 8 (σC 6)]) H := hP
            have hD : va_D Z ([((AX 1), .inr (1, oC AD (σD 99))), aI g (AD 0) 121 (σD 0), aI g (AD 1) 10 (σD 1), aI g (AD 2) 10 (σD 2), aI g (AD 3) 10 (σD 3), aI g (AD 4) 10 (σD 4), aI g (AD 5) 8 (σD 5), aI g (AD 6) 8 (σD 6), ((AX 3), .inr (3, oX3 AP (σP 99))), aI g (AP 0) 60 (σP 0), ((AX 4), .inr (2, oX2 (σN 99))), ((AX 5), .inr (5, oX5 AW (.ref qH))), aI g (AW 0) 121 (σW 0), aI g (AW 1) 11 (σW 1), ((AX 6), .inr (4, oX4 AY (σY_5 99))), aI g (AY 0) 410 (σY_5 0), aI g (AY 1) 50 (σY_5 1), aI g (AY 2) 10 (σY_5 2), ((AX 7), .inr (0, oX0 AK)), aJ g (AK 0) 11 (ℓK 0), aJ g (AK 1) 11 (ℓK 1), aI g (AK 2) 61 (σK 2), aI g qH 10240 (σH 0), (qX, .inr (6, oX6 AX)), ((AX 0), .inr (1, oC AC (σC 99))), aI g (AC 0) 121 (σC 0), aI g (AC 1) 10 (σC 1), aI g (AC 2) 10 (σC 2), aI g (AC 3) 10 (σC 3), aI g (AC 4) 10 (σC 4), aI g (AC 5) 8 (σC 5), aI g (AC 6) 8 (σC 6)]) := hD
            have hP : va_P g.1 vwCl (wX6 qX AX ++ wX1 g (AX 0) AC σC ++ wX1 g (AX 1) AD σD ++ wX3 g (AX 3) AP σP ++ wX2 (AX 4) σN ++ wX5 g (AX 5) AW (.ref qH) σW ++ wX4 g (AX 6) AY σY_5 ++ wX0 g (AX 7) AK σK ℓK ++ wH g qH σH) H := hP.sub [23, 24, 25, 26, 27, 28, 29, 30, 31, 0, 1, 2, 3, 4, 5, 6, 7, 8, 9, 10, 11, 12, 13, 14, 15, 16, 17, 18, 19, 20, 21, 22] rfl
            have hD : va_D Z (wX6 qX AX ++ wX1 g (AX 0) AC σC ++ wX1 g (AX 1) AD σD ++ wX3 g (AX 3) AP σP ++ wX2 (AX 4) σN ++ wX5 g (AX 5) AW (.ref qH) σW ++ wX4 g (AX 6) AY σY_5 ++ wX0 g (AX 7) AK σK ℓK ++ wH g qH σH) := hD.sub [23, 24, 25, 26, 27, 28, 29, 30, 31, 0, 1, 2, 3, 4, 5, 6, 7, 8, 9, 10, 11, 12, 13, 14, 15, 16, 17, 18, 19, 20, 21, 22] (by decide) rfl
            obtain rfl : r_14 = r_w := hw.symm
            refine lv_icmp_eq (tgt := 2096) hx hb dL_law_2091 (by decide) (fun c_16 => ?_) (fun c_16 => ?_)
            · have hF := q_if_t c_16 hF
              refine lv_iinc (v := v24_8 + 1) (lv' := [(24, .int (v24_8 + 1)), (23, .int r_4), (22, .int v22_1), (0, .ref b), (1, .ref qX), (2, .int v2), (4, .int v4), (7, .int v7), (9, .int v9), (18, .int v18), (19, .int v19), (20, .int v20), (21, .int v21)]) hx hb dL_law_2096 hl (k := 0) rfl rfl (by decide) rfl (fun ls hl => ?_)
              refine lv_goto (tgt := 2056) hx hb dL_law_2099 (by decide) ?_
              exact ag (v24_8 + 1) hF _ _ _ hP hD hS (lv_sub hl [0, 1, 2, 3, 4, 5, 6, 7, 8, 9, 10, 11, 12] rfl)
            · have hF := q_if_f c_16 hF
              refine lv_iconst (v := 0) hx hb dL_law_2094 (by decide) ?_
              exact absurd hF (by decide)
