set_option maxHeartbeats 8000000 in
set_option maxRecDepth 100000 in
theorem gs_375 {p : Program} {l : Launch} {e : Env} {s : State} {m : MethodId} {below : List Frame} {meth : Method} {c : Code} {b : Nat} {g : GT} {Z : Nat → Prop} {H : Heap} {locs : List Loc} {ls : Array Slot} {qH qX : Nat} {AX AC AD AP AW AY AK : Nat → Nat} {L : Nat} {xs : Nat → Int32} {σC : qS} {σD : qS} {σP : qS} {σN : qS} {σW : qS} {σY : qS} {σK : qS} {ℓK : qL} {σH : qS} {v2 : Int32} {v3 : Int32} {v4 : Int32} {v5 : Int32} {v6 : Int32} {v7 : Int32} {v8 : Int32} {v9 : Int32}
    (hx : p.tables.exec = Jvm.exec) (hb : c.code = cL_law) (hr : meth.sig.returnType = ret) (hlocks : meth.locks = false) (F : CallFix p m c cL_law 30 s #[Value.ref b] wsL_law RL) (hK : va_K g.1 vwCl (tyL g) s) (hN : NW s) (hA : ∀ q : Nat, s.heap.size ≤ q → Z q) (hZ : Z = fun q => s.heap.size ≤ q) (hbA : ¬ Z b) (hX : va_X b L xs s s.heap) (hbl : b < s.heap.size) (hF : g_375 L xs σC σD σP σN σW σY σK ℓK σH v2 v3 v4 v5 v6 v7 v8 v9 = some 1)
    (hP : va_P g.1 vwCl (wX6 qX AX ++ wX1 g (AX 0) AC σC ++ wX1 g (AX 1) AD σD ++ wX3 g (AX 3) AP σP ++ wX2 (AX 4) σN ++ wX5 g (AX 5) AW (.ref qH) σW ++ wX4 g (AX 6) AY σY ++ wX0 g (AX 7) AK σK ℓK ++ wH g qH σH) H) (hD : va_D Z (wX6 qX AX ++ wX1 g (AX 0) AC σC ++ wX1 g (AX 1) AD σD ++ wX3 g (AX 3) AP σP ++ wX2 (AX 4) σN ++ wX5 g (AX 5) AW (.ref qH) σW ++ wX4 g (AX 6) AY σY ++ wX0 g (AX 7) AK σK ℓK ++ wH g qH σH)) (hS : va_S Z s.heap H locs) (hl : lv_has ls 30 [(0, .ref b), (1, .ref qX), (2, .int v2), (3, .int v3), (4, .int v4), (5, .int v5), (6, .int v6), (7, .int v7), (8, .int v8), (9, .int v9)]) : W p l e room_1 s m #[Value.ref b] below meth c H locs 200 40000 (lw_Z below #[Value.ref b] s) (F0 m 375 ls []) := by
  have hts := F.2.2.2.2
  have hown : s.vm.findClass RL = some m.cls := F.2.2.2.1
  dsimp only [g_375] at hF
  refine lv_iload hx hb dL_law_375 (lv_at hl 6 rfl) ?_
  refine lv_if_ne (tgt := 425) hx hb dL_law_377 (by decide) (fun c_1 => ?_) (fun c_1 => ?_)
  · have hF := q_if_f c_1 hF
    refine lv_aload_n hx hb dL_law_425 rfl (lv_at hl 1 rfl) ?_
    obtain ⟨⟨r_2, σN_3, σP_4, σD_5, σC_6⟩, h_7, hF⟩ := q_cl_s hF
    try dsimp only at hF
    refine gcV_i (As := []) (rest := []) (ci := 6) (q := (RX6, TX6, 8)) F hK hN hP hD hS hA (m_X6_done l g H.size qX AX σN AP σP AD σD AC σC r_2 σN_3 σP_4 σD_5 σC_6 h_7) gL_law_X6_done kX6_done rfl rfl rfl rfl ⟨(Nat.le_of_ble_eq_true rfl), (Nat.le_of_ble_eq_true rfl)⟩ [0, 19, 17, 18, 9, 10, 11, 12, 13, 14, 15, 16, 1, 2, 3, 4, 5, 6, 7, 8] [20, 21, 22, 23, 24, 25, 26, 27, 28, 29, 30, 31] rfl rfl rfl (by decide) rfl rfl rfl rfl rfl hl.1 (Nat.le_of_ble_eq_true rfl) dL_law_426 ⟨(Nat.le_of_ble_eq_true rfl), (Nat.le_of_ble_eq_true rfl)⟩ (fun r_w u_w H locs hw hP hD hS => ?_)
    have hP : va_P g.1 vwCl (wX6 qX AX ++ wX1 g (AX 0) AC σC_6 ++ wX1 g (AX 1) AD σD_5 ++ wX3 g (AX 3) AP σP_4 ++ wX2 (AX 4) σN_3 ++ wX5 g (AX 5) AW (.ref qH) σW ++ wX4 g (AX 6) AY σY ++ wX0 g (AX 7) AK σK ℓK ++ wH g qH σH) H := hP.sub [12, 24, 25, 26, 27, 28, 29, 30, 31, 16, 17, 18, 19, 20, 21, 22, 23, 14, 15, 13, 0, 1, 2, 3, 4, 5, 6, 7, 8, 9, 10, 11] rfl
    have hD : va_D Z (wX6 qX AX ++ wX1 g (AX 0) AC σC_6 ++ wX1 g (AX 1) AD σD_5 ++ wX3 g (AX 3) AP σP_4 ++ wX2 (AX 4) σN_3 ++ wX5 g (AX 5) AW (.ref qH) σW ++ wX4 g (AX 6) AY σY ++ wX0 g (AX 7) AK σK ℓK ++ wH g qH σH) := hD.sub [12, 24, 25, 26, 27, 28, 29, 30, 31, 16, 17, 18, 19, 20, 21, 22, 23, 14, 15, 13, 0, 1, 2, 3, 4, 5, 6, 7, 8, 9, 10, 11] (by decide) rfl
    obtain rfl : r_2 = r_w := hw.symm
    refine lv_iload hx hb dL_law_429 (lv_at hl 8 rfl) ?_
    refine lv_icmp_ne (tgt := 499) hx hb dL_law_431 (by decide) (fun c_9 => ?_) (fun c_9 => ?_)
    · have hF := q_if_f c_9 hF
      refine lv_iconst (v := 0) hx hb dL_law_499 (by decide) ?_
      exact absurd hF (by decide)
    · have hF := q_if_t (by first | exact c_9 | exact Classical.not_not.mp c_9) hF
      refine lv_aload_n hx hb dL_law_434 rfl (lv_at hl 1 rfl) ?_
      refine lv_iconst (v := 1) hx hb dL_law_435 (by decide) ?_
      obtain ⟨r_10, h_11, hF⟩ := q_cl_s hF
      refine gcV_i (As := [.int 1]) (rest := []) (ci := 6) (q := (RX6, TX6, 8)) F hK hN hP hD hS hA (m_X6_told l g H.size qX AX AP σP_4 AC σC_6 (1 : Int32) r_10 h_11) gL_law_X6_told kX6_told rfl rfl rfl rfl ⟨(Nat.le_of_ble_eq_true rfl), (Nat.le_of_ble_eq_true rfl)⟩ [0, 17, 18, 1, 2, 3, 4, 5, 6, 7, 8] [9, 10, 11, 12, 13, 14, 15, 16, 19, 20, 21, 22, 23, 24, 25, 26, 27, 28, 29, 30, 31] rfl rfl rfl (by decide) rfl rfl rfl rfl rfl hl.1 (Nat.le_of_ble_eq_true rfl) dL_law_436 ⟨(Nat.le_of_ble_eq_true rfl), (Nat.le_of_ble_eq_true rfl)⟩ (fun r_w u_w H locs hw hP hD hS => ?_)
      have hP : va_P g.1 vwCl (wX6 qX AX ++ wX1 g (AX 0) AC σC_6 ++ wX1 g (AX 1) AD σD_5 ++ wX3 g (AX 3) AP σP_4 ++ wX2 (AX 4) σN_3 ++ wX5 g (AX 5) AW (.ref qH) σW ++ wX4 g (AX 6) AY σY ++ wX0 g (AX 7) AK σK ℓK ++ wH g qH σH) H := hP.sub [21, 24, 25, 26, 27, 28, 29, 30, 31, 0, 1, 2, 3, 4, 5, 6, 7, 22, 23, 8, 9, 10, 11, 12, 13, 14, 15, 16, 17, 18, 19, 20] rfl
      have hD : va_D Z (wX6 qX AX ++ wX1 g (AX 0) AC σC_6 ++ wX1 g (AX 1) AD σD_5 ++ wX3 g (AX 3) AP σP_4 ++ wX2 (AX 4) σN_3 ++ wX5 g (AX 5) AW (.ref qH) σW ++ wX4 g (AX 6) AY σY ++ wX0 g (AX 7) AK σK ℓK ++ wH g qH σH) := hD.sub [21, 24, 25, 26, 27, 28, 29, 30, 31, 0, 1, 2, 3, 4, 5, 6, 7, 22, 23, 8, 9, 10, 11, 12, 13, 14, 15, 16, 17, 18, 19, 20] (by decide) rfl
      obtain rfl : r_10 = r_w := hw.symm
      refine lv_bipush (v := 9) hx hb dL_law_439 (by decide) ?_
      refine lv_icmp_ne (tgt := 499) hx hb dL_law_441 (by decide) (fun c_12 => ?_) (fun c_12 => ?_)
      · have hF := q_if_f c_12 hF
        refine lv_iconst (v := 0) hx hb dL_law_499 (by decide) ?_
        exact absurd hF (by decide)
      · have hF := q_if_t (by first | exact c_12 | exact Classical.not_not.mp c_12) hF
        refine lv_aload_n hx hb dL_law_444 rfl (lv_at hl 1 rfl) ?_
        refine lv_iconst (v := 2) hx hb dL_law_445 (by decide) ?_
        obtain ⟨r_13, h_14, hF⟩ := q_cl_s hF
        refine gcV_i (As := [.int 2]) (rest := []) (ci := 6) (q := (RX6, TX6, 8)) F hK hN hP hD hS hA (m_X6_told l g H.size qX AX AP σP_4 AC σC_6 (2 : Int32) r_13 h_14) gL_law_X6_told kX6_told rfl rfl rfl rfl ⟨(Nat.le_of_ble_eq_true rfl), (Nat.le_of_ble_eq_true rfl)⟩ [0, 17, 18, 1, 2, 3, 4, 5, 6, 7, 8] [9, 10, 11, 12, 13, 14, 15, 16, 19, 20, 21, 22, 23, 24, 25, 26, 27, 28, 29, 30, 31] rfl rfl rfl (by decide) rfl rfl rfl rfl rfl hl.1 (Nat.le_of_ble_eq_true rfl) dL_law_446 ⟨(Nat.le_of_ble_eq_true rfl), (Nat.le_of_ble_eq_true rfl)⟩ (fun r_w u_w H locs hw hP hD hS => ?_)
        have hP : va_P g.1 vwCl (wX6 qX AX ++ wX1 g (AX 0) AC σC_6 ++ wX1 g (AX 1) AD σD_5 ++ wX3 g (AX 3) AP σP_4 ++ wX2 (AX 4) σN_3 ++ wX5 g (AX 5) AW (.ref qH) σW ++ wX4 g (AX 6) AY σY ++ wX0 g (AX 7) AK σK ℓK ++ wH g qH σH) H := hP.sub [21, 24, 25, 26, 27, 28, 29, 30, 31, 0, 1, 2, 3, 4, 5, 6, 7, 22, 23, 8, 9, 10, 11, 12, 13, 14, 15, 16, 17, 18, 19, 20] rfl
        have hD : va_D Z (wX6 qX AX ++ wX1 g (AX 0) AC σC_6 ++ wX1 g (AX 1) AD σD_5 ++ wX3 g (AX 3) AP σP_4 ++ wX2 (AX 4) σN_3 ++ wX5 g (AX 5) AW (.ref qH) σW ++ wX4 g (AX 6) AY σY ++ wX0 g (AX 7) AK σK ℓK ++ wH g qH σH) := hD.sub [21, 24, 25, 26, 27, 28, 29, 30, 31, 0, 1, 2, 3, 4, 5, 6, 7, 22, 23, 8, 9, 10, 11, 12, 13, 14, 15, 16, 17, 18, 19, 20] (by decide) rfl
        obtain rfl : r_13 = r_w := hw.symm
        refine lv_iload hx hb dL_law_449 (lv_at hl 6 rfl) ?_
        refine lv_icmp_ne (tgt := 499) hx hb dL_law_451 (by decide) (fun c_15 => ?_) (fun c_15 => ?_)
        · have hF := q_if_f c_15 hF
          refine lv_iconst (v := 0) hx hb dL_law_499 (by decide) ?_
          exact absurd hF (by decide)
        · have hF := q_if_t (by first | exact c_15 | exact Classical.not_not.mp c_15) hF
          refine lv_aload_n hx hb dL_law_454 rfl (lv_at hl 1 rfl) ?_
          refine lv_bipush (v := 46) hx hb dL_law_455 (by decide) ?_
          obtain ⟨⟨r_16, σP_17⟩, h_18, hF⟩ := q_cl_s hF
          try dsimp only at hF
          refine gcV_i (As := [.int 46]) (rest := []) (ci := 6) (q := (RX6, TX6, 8)) F hK hN hP hD hS hA (m_X6_say l g H.size qX AX AP σP_4 (46 : Int32) r_16 σP_17 h_18) gL_law_X6_say kX6_say rfl rfl rfl rfl ⟨(Nat.le_of_ble_eq_true rfl), (Nat.le_of_ble_eq_true rfl)⟩ [0, 17, 18] [1, 2, 3, 4, 5, 6, 7, 8, 9, 10, 11, 12, 13, 14, 15, 16, 19, 20, 21, 22, 23, 24, 25, 26, 27, 28, 29, 30, 31] rfl rfl rfl (by decide) rfl rfl rfl rfl rfl hl.1 (Nat.le_of_ble_eq_true rfl) dL_law_457 ⟨(Nat.le_of_ble_eq_true rfl), (Nat.le_of_ble_eq_true rfl)⟩ (fun r_w u_w H locs hw hP hD hS => ?_)
          have hP : va_P g.1 vwCl (wX6 qX AX ++ wX1 g (AX 0) AC σC_6 ++ wX1 g (AX 1) AD σD_5 ++ wX3 g (AX 3) AP σP_17 ++ wX2 (AX 4) σN_3 ++ wX5 g (AX 5) AW (.ref qH) σW ++ wX4 g (AX 6) AY σY ++ wX0 g (AX 7) AK σK ℓK ++ wH g qH σH) H := hP.sub [29, 0, 1, 2, 3, 4, 5, 6, 7, 8, 9, 10, 11, 12, 13, 14, 15, 30, 31, 16, 17, 18, 19, 20, 21, 22, 23, 24, 25, 26, 27, 28] rfl
          have hD : va_D Z (wX6 qX AX ++ wX1 g (AX 0) AC σC_6 ++ wX1 g (AX 1) AD σD_5 ++ wX3 g (AX 3) AP σP_17 ++ wX2 (AX 4) σN_3 ++ wX5 g (AX 5) AW (.ref qH) σW ++ wX4 g (AX 6) AY σY ++ wX0 g (AX 7) AK σK ℓK ++ wH g qH σH) := hD.sub [29, 0, 1, 2, 3, 4, 5, 6, 7, 8, 9, 10, 11, 12, 13, 14, 15, 30, 31, 16, 17, 18, 19, 20, 21, 22, 23, 24, 25, 26, 27, 28] (by decide) rfl
          obtain rfl : r_16 = r_w := hw.symm
          refine lv_iconst (v := 1) hx hb dL_law_460 (by decide) ?_
          refine lv_icmp_ne (tgt := 499) hx hb dL_law_461 (by decide) (fun c_20 => ?_) (fun c_20 => ?_)
          · have hF := q_if_f c_20 hF
            refine lv_iconst (v := 0) hx hb dL_law_499 (by decide) ?_
            exact absurd hF (by decide)
          · have hF := q_if_t (by first | exact c_20 | exact Classical.not_not.mp c_20) hF
            refine lv_aload_n hx hb dL_law_464 rfl (lv_at hl 1 rfl) ?_
            refine lv_iconst (v := 1) hx hb dL_law_465 (by decide) ?_
            obtain ⟨⟨r_21, σN_22, σD_23⟩, h_24, hF⟩ := q_cl_s hF
            try dsimp only at hF
            refine gcV_i (As := [.int 1]) (rest := []) (ci := 6) (q := (RX6, TX6, 8)) F hK hN hP hD hS hA (m_X6_pan l g H.size qX AX σN_3 AP σP_17 AD σD_5 AC σC_6 (1 : Int32) r_21 σN_22 σD_23 h_24) gL_law_X6_pan kX6_pan rfl rfl rfl rfl ⟨(Nat.le_of_ble_eq_true rfl), (Nat.le_of_ble_eq_true rfl)⟩ [0, 19, 17, 18, 9, 10, 11, 12, 13, 14, 15, 16, 1, 2, 3, 4, 5, 6, 7, 8] [20, 21, 22, 23, 24, 25, 26, 27, 28, 29, 30, 31] rfl rfl rfl (by decide) rfl rfl rfl rfl rfl hl.1 (Nat.le_of_ble_eq_true rfl) dL_law_466 ⟨(Nat.le_of_ble_eq_true rfl), (Nat.le_of_ble_eq_true rfl)⟩ (fun r_w u_w H locs hw hP hD hS => ?_)
            have hP : va_P g.1 vwCl (wX6 qX AX ++ wX1 g (AX 0) AC σC_6 ++ wX1 g (AX 1) AD σD_23 ++ wX3 g (AX 3) AP σP_17 ++ wX2 (AX 4) σN_22 ++ wX5 g (AX 5) AW (.ref qH) σW ++ wX4 g (AX 6) AY σY ++ wX0 g (AX 7) AK σK ℓK ++ wH g qH σH) H := hP.sub [12, 24, 25, 26, 27, 28, 29, 30, 31, 16, 17, 18, 19, 20, 21, 22, 23, 14, 15, 13, 0, 1, 2, 3, 4, 5, 6, 7, 8, 9, 10, 11] rfl
            have hD : va_D Z (wX6 qX AX ++ wX1 g (AX 0) AC σC_6 ++ wX1 g (AX 1) AD σD_23 ++ wX3 g (AX 3) AP σP_17 ++ wX2 (AX 4) σN_22 ++ wX5 g (AX 5) AW (.ref qH) σW ++ wX4 g (AX 6) AY σY ++ wX0 g (AX 7) AK σK ℓK ++ wH g qH σH) := hD.sub [12, 24, 25, 26, 27, 28, 29, 30, 31, 16, 17, 18, 19, 20, 21, 22, 23, 14, 15, 13, 0, 1, 2, 3, 4, 5, 6, 7, 8, 9, 10, 11] (by decide) rfl
            obtain rfl : r_21 = r_w := hw.symm
            refine lv_if_ne (tgt := 499) hx hb dL_law_469 (by decide) (fun c_26 => ?_) (fun c_26 => ?_)
            · have hF := q_if_f c_26 hF
              refine lv_iconst (v := 0) hx hb dL_law_499 (by decide) ?_
              exact absurd hF (by decide)
            · have hF := q_if_t (by first | exact c_26 | exact Classical.not_not.mp c_26) hF
              refine lv_aload_n hx hb dL_law_472 rfl (lv_at hl 1 rfl) ?_
              refine lv_iconst (v := 0) hx hb dL_law_473 (by decide) ?_
              obtain ⟨⟨r_27, σN_28, σD_29⟩, h_30, hF⟩ := q_cl_s hF
              try dsimp only at hF
              refine gcV_i (As := [.int 0]) (rest := []) (ci := 6) (q := (RX6, TX6, 8)) F hK hN hP hD hS hA (m_X6_pan l g H.size qX AX σN_22 AP σP_17 AD σD_23 AC σC_6 (0 : Int32) r_27 σN_28 σD_29 h_30) gL_law_X6_pan kX6_pan rfl rfl rfl rfl ⟨(Nat.le_of_ble_eq_true rfl), (Nat.le_of_ble_eq_true rfl)⟩ [0, 19, 17, 18, 9, 10, 11, 12, 13, 14, 15, 16, 1, 2, 3, 4, 5, 6, 7, 8] [20, 21, 22, 23, 24, 25, 26, 27, 28, 29, 30, 31] rfl rfl rfl (by decide) rfl rfl rfl rfl rfl hl.1 (Nat.le_of_ble_eq_true rfl) dL_law_474 ⟨(Nat.le_of_ble_eq_true rfl), (Nat.le_of_ble_eq_true rfl)⟩ (fun r_w u_w H locs hw hP hD hS => ?_)
              have hP : va_P g.1 vwCl (wX6 qX AX ++ wX1 g (AX 0) AC σC_6 ++ wX1 g (AX 1) AD σD_29 ++ wX3 g (AX 3) AP σP_17 ++ wX2 (AX 4) σN_28 ++ wX5 g (AX 5) AW (.ref qH) σW ++ wX4 g (AX 6) AY σY ++ wX0 g (AX 7) AK σK ℓK ++ wH g qH σH) H := hP.sub [12, 24, 25, 26, 27, 28, 29, 30, 31, 16, 17, 18, 19, 20, 21, 22, 23, 14, 15, 13, 0, 1, 2, 3, 4, 5, 6, 7, 8, 9, 10, 11] rfl
              have hD : va_D Z (wX6 qX AX ++ wX1 g (AX 0) AC σC_6 ++ wX1 g (AX 1) AD σD_29 ++ wX3 g (AX 3) AP σP_17 ++ wX2 (AX 4) σN_28 ++ wX5 g (AX 5) AW (.ref qH) σW ++ wX4 g (AX 6) AY σY ++ wX0 g (AX 7) AK σK ℓK ++ wH g qH σH) := hD.sub [12, 24, 25, 26, 27, 28, 29, 30, 31, 16, 17, 18, 19, 20, 21, 22, 23, 14, 15, 13, 0, 1, 2, 3, 4, 5, 6, 7, 8, 9, 10, 11] (by decide) rfl
              obtain rfl : r_27 = r_w := hw.symm
              refine lv_bipush (v := 10) hx hb dL_law_477 (by decide) ?_
              refine lv_icmp_ne (tgt := 499) hx hb dL_law_479 (by decide) (fun c_32 => ?_) (fun c_32 => ?_)
              · have hF := q_if_f c_32 hF
                refine lv_iconst (v := 0) hx hb dL_law_499 (by decide) ?_
                exact absurd hF (by decide)
              · have hF := q_if_t (by first | exact c_32 | exact Classical.not_not.mp c_32) hF
                refine lv_aload_n hx hb dL_law_482 rfl (lv_at hl 1 rfl) ?_
                obtain ⟨⟨r_33, σN_34, σP_35, σD_36, σC_37⟩, h_38, hF⟩ := q_cl_s hF
                try dsimp only at hF
                refine gcV_i (As := []) (rest := []) (ci := 6) (q := (RX6, TX6, 8)) F hK hN hP hD hS hA (m_X6_done l g H.size qX AX σN_28 AP σP_17 AD σD_29 AC σC_6 r_33 σN_34 σP_35 σD_36 σC_37 h_38) gL_law_X6_done kX6_done rfl rfl rfl rfl ⟨(Nat.le_of_ble_eq_true rfl), (Nat.le_of_ble_eq_true rfl)⟩ [0, 19, 17, 18, 9, 10, 11, 12, 13, 14, 15, 16, 1, 2, 3, 4, 5, 6, 7, 8] [20, 21, 22, 23, 24, 25, 26, 27, 28, 29, 30, 31] rfl rfl rfl (by decide) rfl rfl rfl rfl rfl hl.1 (Nat.le_of_ble_eq_true rfl) dL_law_483 ⟨(Nat.le_of_ble_eq_true rfl), (Nat.le_of_ble_eq_true rfl)⟩ (fun r_w u_w H locs hw hP hD hS => ?_)
                have hP : va_P g.1 vwCl (wX6 qX AX ++ wX1 g (AX 0) AC σC_37 ++ wX1 g (AX 1) AD σD_36 ++ wX3 g (AX 3) AP σP_35 ++ wX2 (AX 4) σN_34 ++ wX5 g (AX 5) AW (.ref qH) σW ++ wX4 g (AX 6) AY σY ++ wX0 g (AX 7) AK σK ℓK ++ wH g qH σH) H := hP.sub [12, 24, 25, 26, 27, 28, 29, 30, 31, 16, 17, 18, 19, 20, 21, 22, 23, 14, 15, 13, 0, 1, 2, 3, 4, 5, 6, 7, 8, 9, 10, 11] rfl
                have hD : va_D Z (wX6 qX AX ++ wX1 g (AX 0) AC σC_37 ++ wX1 g (AX 1) AD σD_36 ++ wX3 g (AX 3) AP σP_35 ++ wX2 (AX 4) σN_34 ++ wX5 g (AX 5) AW (.ref qH) σW ++ wX4 g (AX 6) AY σY ++ wX0 g (AX 7) AK σK ℓK ++ wH g qH σH) := hD.sub [12, 24, 25, 26, 27, 28, 29, 30, 31, 16, 17, 18, 19, 20, 21, 22, 23, 14, 15, 13, 0, 1, 2, 3, 4, 5, 6, 7, 8, 9, 10, 11] (by decide) rfl
                obtain rfl : r_33 = r_w := hw.symm
                refine lv_iconst (v := 1) hx hb dL_law_486 (by decide) ?_
                refine lv_icmp_ne (tgt := 499) hx hb dL_law_487 (by decide) (fun c_40 => ?_) (fun c_40 => ?_)
                · have hF := q_if_f c_40 hF
                  refine lv_iconst (v := 0) hx hb dL_law_499 (by decide) ?_
                  exact absurd hF (by decide)
                · have hF := q_if_t (by first | exact c_40 | exact Classical.not_not.mp c_40) hF
                  refine lv_aload_n hx hb dL_law_490 rfl (lv_at hl 1 rfl) ?_
                  refine lv_iconst (v := 4) hx hb dL_law_491 (by decide) ?_
                  obtain ⟨r_41, h_42, hF⟩ := q_cl_s hF
                  refine gcV_i (As := [.int 4]) (rest := []) (ci := 6) (q := (RX6, TX6, 8)) F hK hN hP hD hS hA (m_X6_told l g H.size qX AX AP σP_35 AC σC_37 (4 : Int32) r_41 h_42) gL_law_X6_told kX6_told rfl rfl rfl rfl ⟨(Nat.le_of_ble_eq_true rfl), (Nat.le_of_ble_eq_true rfl)⟩ [0, 17, 18, 1, 2, 3, 4, 5, 6, 7, 8] [9, 10, 11, 12, 13, 14, 15, 16, 19, 20, 21, 22, 23, 24, 25, 26, 27, 28, 29, 30, 31] rfl rfl rfl (by decide) rfl rfl rfl rfl rfl hl.1 (Nat.le_of_ble_eq_true rfl) dL_law_492 ⟨(Nat.le_of_ble_eq_true rfl), (Nat.le_of_ble_eq_true rfl)⟩ (fun r_w u_w H locs hw hP hD hS => ?_)
                  have hP : va_P g.1 vwCl (wX6 qX AX ++ wX1 g (AX 0) AC σC_37 ++ wX1 g (AX 1) AD σD_36 ++ wX3 g (AX 3) AP σP_35 ++ wX2 (AX 4) σN_34 ++ wX5 g (AX 5) AW (.ref qH) σW ++ wX4 g (AX 6) AY σY ++ wX0 g (AX 7) AK σK ℓK ++ wH g qH σH) H := hP.sub [21, 24, 25, 26, 27, 28, 29, 30, 31, 0, 1, 2, 3, 4, 5, 6, 7, 22, 23, 8, 9, 10, 11, 12, 13, 14, 15, 16, 17, 18, 19, 20] rfl
                  have hD : va_D Z (wX6 qX AX ++ wX1 g (AX 0) AC σC_37 ++ wX1 g (AX 1) AD σD_36 ++ wX3 g (AX 3) AP σP_35 ++ wX2 (AX 4) σN_34 ++ wX5 g (AX 5) AW (.ref qH) σW ++ wX4 g (AX 6) AY σY ++ wX0 g (AX 7) AK σK ℓK ++ wH g qH σH) := hD.sub [21, 24, 25, 26, 27, 28, 29, 30, 31, 0, 1, 2, 3, 4, 5, 6, 7, 22, 23, 8, 9, 10, 11, 12, 13, 14, 15, 16, 17, 18, 19, 20] (by decide) rfl
                  obtain rfl : r_41 = r_w := hw.symm
                  refine lv_iconst (v := 1) hx hb dL_law_495 (by decide) ?_
                  refine lv_icmp_eq (tgt := 501) hx hb dL_law_496 (by decide) (fun c_43 => ?_) (fun c_43 => ?_)
                  · have hF := q_if_t c_43 hF
                    exact gs_501 hx hb hr hlocks F hK hN hA hZ hbA hX hbl hF hP hD hS (lv_sub hl [0, 1, 2, 3, 4, 7, 9] rfl)
                  · have hF := q_if_f c_43 hF
                    refine lv_iconst (v := 0) hx hb dL_law_499 (by decide) ?_
                    exact absurd hF (by decide)
  · have hF := q_if_t (by first | exact c_1 | exact Classical.not_not.mp c_1) hF
    refine lv_aload_n hx hb dL_law_380 rfl (lv_at hl 1 rfl) ?_
    refine lv_bipush (v := 42) hx hb dL_law_381 (by decide) ?_
    obtain ⟨⟨r_44, σP_45⟩, h_46, hF⟩ := q_cl_s hF
    try dsimp only at hF
    refine gcV_i (As := [.int 42]) (rest := []) (ci := 6) (q := (RX6, TX6, 8)) F hK hN hP hD hS hA (m_X6_say l g H.size qX AX AP σP (42 : Int32) r_44 σP_45 h_46) gL_law_X6_say kX6_say rfl rfl rfl rfl ⟨(Nat.le_of_ble_eq_true rfl), (Nat.le_of_ble_eq_true rfl)⟩ [0, 17, 18] [1, 2, 3, 4, 5, 6, 7, 8, 9, 10, 11, 12, 13, 14, 15, 16, 19, 20, 21, 22, 23, 24, 25, 26, 27, 28, 29, 30, 31] rfl rfl rfl (by decide) rfl rfl rfl rfl rfl hl.1 (Nat.le_of_ble_eq_true rfl) dL_law_383 ⟨(Nat.le_of_ble_eq_true rfl), (Nat.le_of_ble_eq_true rfl)⟩ (fun r_w u_w H locs hw hP hD hS => ?_)
    have hP : va_P g.1 vwCl (wX6 qX AX ++ wX1 g (AX 0) AC σC ++ wX1 g (AX 1) AD σD ++ wX3 g (AX 3) AP σP_45 ++ wX2 (AX 4) σN ++ wX5 g (AX 5) AW (.ref qH) σW ++ wX4 g (AX 6) AY σY ++ wX0 g (AX 7) AK σK ℓK ++ wH g qH σH) H := hP.sub [29, 0, 1, 2, 3, 4, 5, 6, 7, 8, 9, 10, 11, 12, 13, 14, 15, 30, 31, 16, 17, 18, 19, 20, 21, 22, 23, 24, 25, 26, 27, 28] rfl
    have hD : va_D Z (wX6 qX AX ++ wX1 g (AX 0) AC σC ++ wX1 g (AX 1) AD σD ++ wX3 g (AX 3) AP σP_45 ++ wX2 (AX 4) σN ++ wX5 g (AX 5) AW (.ref qH) σW ++ wX4 g (AX 6) AY σY ++ wX0 g (AX 7) AK σK ℓK ++ wH g qH σH) := hD.sub [29, 0, 1, 2, 3, 4, 5, 6, 7, 8, 9, 10, 11, 12, 13, 14, 15, 30, 31, 16, 17, 18, 19, 20, 21, 22, 23, 24, 25, 26, 27, 28] (by decide) rfl
    obtain rfl : r_44 = r_w := hw.symm
    refine lv_iload hx hb dL_law_386 (lv_at hl 5 rfl) ?_
    refine lv_iconst (v := 1) hx hb dL_law_388 (by decide) ?_
    refine lv_iadd hx hb dL_law_389 ?_
    refine lv_icmp_ne (tgt := 423) hx hb dL_law_390 (by decide) (fun c_48 => ?_) (fun c_48 => ?_)
    · have hF := q_if_f c_48 hF
      refine lv_iconst (v := 0) hx hb dL_law_423 (by decide) ?_
      exact absurd hF (by decide)
    · have hF := q_if_t (by first | exact c_48 | exact Classical.not_not.mp c_48) hF
      refine lv_aload_n hx hb dL_law_393 rfl (lv_at hl 1 rfl) ?_
      refine lv_iconst (v := 0) hx hb dL_law_394 (by decide) ?_
      obtain ⟨⟨r_49, σN_50, σD_51⟩, h_52, hF⟩ := q_cl_s hF
      try dsimp only at hF
      refine gcV_i (As := [.int 0]) (rest := []) (ci := 6) (q := (RX6, TX6, 8)) F hK hN hP hD hS hA (m_X6_judge l g H.size qX AX σN AP σP_45 AD σD AC σC (0 : Int32) r_49 σN_50 σD_51 h_52) gL_law_X6_judge kX6_judge rfl rfl rfl rfl ⟨(Nat.le_of_ble_eq_true rfl), (Nat.le_of_ble_eq_true rfl)⟩ [0, 19, 17, 18, 9, 10, 11, 12, 13, 14, 15, 16, 1, 2, 3, 4, 5, 6, 7, 8] [20, 21, 22, 23, 24, 25, 26, 27, 28, 29, 30, 31] rfl rfl rfl (by decide) rfl rfl rfl rfl rfl hl.1 (Nat.le_of_ble_eq_true rfl) dL_law_395 ⟨(Nat.le_of_ble_eq_true rfl), (Nat.le_of_ble_eq_true rfl)⟩ (fun r_w u_w H locs hw hP hD hS => ?_)
      have hP : va_P g.1 vwCl (wX6 qX AX ++ wX1 g (AX 0) AC σC ++ wX1 g (AX 1) AD σD_51 ++ wX3 g (AX 3) AP σP_45 ++ wX2 (AX 4) σN_50 ++ wX5 g (AX 5) AW (.ref qH) σW ++ wX4 g (AX 6) AY σY ++ wX0 g (AX 7) AK σK ℓK ++ wH g qH σH) H := hP.sub [12, 24, 25, 26, 27, 28, 29, 30, 31, 16, 17, 18, 19, 20, 21, 22, 23, 14, 15, 13, 0, 1, 2, 3, 4, 5, 6, 7, 8, 9, 10, 11] rfl
      have hD : va_D Z (wX6 qX AX ++ wX1 g (AX 0) AC σC ++ wX1 g (AX 1) AD σD_51 ++ wX3 g (AX 3) AP σP_45 ++ wX2 (AX 4) σN_50 ++ wX5 g (AX 5) AW (.ref qH) σW ++ wX4 g (AX 6) AY σY ++ wX0 g (AX 7) AK σK ℓK ++ wH g qH σH) := hD.sub [12, 24, 25, 26, 27, 28, 29, 30, 31, 16, 17, 18, 19, 20, 21, 22, 23, 14, 15, 13, 0, 1, 2, 3, 4, 5, 6, 7, 8, 9, 10, 11] (by decide) rfl
      obtain rfl : r_49 = r_w := hw.symm
      refine lv_iload hx hb dL_law_398 (lv_at hl 8 rfl) ?_
      refine lv_icmp_ne (tgt := 423) hx hb dL_law_400 (by decide) (fun c_54 => ?_) (fun c_54 => ?_)
      · have hF := q_if_f c_54 hF
        refine lv_iconst (v := 0) hx hb dL_law_423 (by decide) ?_
        exact absurd hF (by decide)
      · have hF := q_if_t (by first | exact c_54 | exact Classical.not_not.mp c_54) hF
        refine lv_aload_n hx hb dL_law_403 rfl (lv_at hl 1 rfl) ?_
        refine lv_iconst (v := 1) hx hb dL_law_404 (by decide) ?_
        obtain ⟨⟨r_55, σN_56, σD_57⟩, h_58, hF⟩ := q_cl_s hF
        try dsimp only at hF
        refine gcV_i (As := [.int 1]) (rest := []) (ci := 6) (q := (RX6, TX6, 8)) F hK hN hP hD hS hA (m_X6_judge l g H.size qX AX σN_50 AP σP_45 AD σD_51 AC σC (1 : Int32) r_55 σN_56 σD_57 h_58) gL_law_X6_judge kX6_judge rfl rfl rfl rfl ⟨(Nat.le_of_ble_eq_true rfl), (Nat.le_of_ble_eq_true rfl)⟩ [0, 19, 17, 18, 9, 10, 11, 12, 13, 14, 15, 16, 1, 2, 3, 4, 5, 6, 7, 8] [20, 21, 22, 23, 24, 25, 26, 27, 28, 29, 30, 31] rfl rfl rfl (by decide) rfl rfl rfl rfl rfl hl.1 (Nat.le_of_ble_eq_true rfl) dL_law_405 ⟨(Nat.le_of_ble_eq_true rfl), (Nat.le_of_ble_eq_true rfl)⟩ (fun r_w u_w H locs hw hP hD hS => ?_)
        have hP : va_P g.1 vwCl (wX6 qX AX ++ wX1 g (AX 0) AC σC ++ wX1 g (AX 1) AD σD_57 ++ wX3 g (AX 3) AP σP_45 ++ wX2 (AX 4) σN_56 ++ wX5 g (AX 5) AW (.ref qH) σW ++ wX4 g (AX 6) AY σY ++ wX0 g (AX 7) AK σK ℓK ++ wH g qH σH) H := hP.sub [12, 24, 25, 26, 27, 28, 29, 30, 31, 16, 17, 18, 19, 20, 21, 22, 23, 14, 15, 13, 0, 1, 2, 3, 4, 5, 6, 7, 8, 9, 10, 11] rfl
        have hD : va_D Z (wX6 qX AX ++ wX1 g (AX 0) AC σC ++ wX1 g (AX 1) AD σD_57 ++ wX3 g (AX 3) AP σP_45 ++ wX2 (AX 4) σN_56 ++ wX5 g (AX 5) AW (.ref qH) σW ++ wX4 g (AX 6) AY σY ++ wX0 g (AX 7) AK σK ℓK ++ wH g qH σH) := hD.sub [12, 24, 25, 26, 27, 28, 29, 30, 31, 16, 17, 18, 19, 20, 21, 22, 23, 14, 15, 13, 0, 1, 2, 3, 4, 5, 6, 7, 8, 9, 10, 11] (by decide) rfl
        obtain rfl : r_55 = r_w := hw.symm
        refine lv_iconst (v := 3) hx hb dL_law_408 (by decide) ?_
        refine lv_icmp_ne (tgt := 423) hx hb dL_law_409 (by decide) (fun c_60 => ?_) (fun c_60 => ?_)
        · have hF := q_if_f c_60 hF
          refine lv_iconst (v := 0) hx hb dL_law_423 (by decide) ?_
          exact absurd hF (by decide)
        · have hF := q_if_t (by first | exact c_60 | exact Classical.not_not.mp c_60) hF
          refine lv_aload_n hx hb dL_law_412 rfl (lv_at hl 1 rfl) ?_
          obtain ⟨⟨r_61, σP_62⟩, h_63, hF⟩ := q_cl_s hF
          try dsimp only at hF
          refine gcV_i (As := []) (rest := []) (ci := 6) (q := (RX6, TX6, 8)) F hK hN hP hD hS hA (m_X6_wipe l g H.size qX AX AP σP_45 r_61 σP_62 h_63) gL_law_X6_wipe kX6_wipe rfl rfl rfl rfl ⟨(Nat.le_of_ble_eq_true rfl), (Nat.le_of_ble_eq_true rfl)⟩ [0, 17, 18] [1, 2, 3, 4, 5, 6, 7, 8, 9, 10, 11, 12, 13, 14, 15, 16, 19, 20, 21, 22, 23, 24, 25, 26, 27, 28, 29, 30, 31] rfl rfl rfl (by decide) rfl rfl rfl rfl rfl hl.1 (Nat.le_of_ble_eq_true rfl) dL_law_413 ⟨(Nat.le_of_ble_eq_true rfl), (Nat.le_of_ble_eq_true rfl)⟩ (fun r_w u_w H locs hw hP hD hS => ?_)
          have hP : va_P g.1 vwCl (wX6 qX AX ++ wX1 g (AX 0) AC σC ++ wX1 g (AX 1) AD σD_57 ++ wX3 g (AX 3) AP σP_62 ++ wX2 (AX 4) σN_56 ++ wX5 g (AX 5) AW (.ref qH) σW ++ wX4 g (AX 6) AY σY ++ wX0 g (AX 7) AK σK ℓK ++ wH g qH σH) H := hP.sub [29, 0, 1, 2, 3, 4, 5, 6, 7, 8, 9, 10, 11, 12, 13, 14, 15, 30, 31, 16, 17, 18, 19, 20, 21, 22, 23, 24, 25, 26, 27, 28] rfl
          have hD : va_D Z (wX6 qX AX ++ wX1 g (AX 0) AC σC ++ wX1 g (AX 1) AD σD_57 ++ wX3 g (AX 3) AP σP_62 ++ wX2 (AX 4) σN_56 ++ wX5 g (AX 5) AW (.ref qH) σW ++ wX4 g (AX 6) AY σY ++ wX0 g (AX 7) AK σK ℓK ++ wH g qH σH) := hD.sub [29, 0, 1, 2, 3, 4, 5, 6, 7, 8, 9, 10, 11, 12, 13, 14, 15, 30, 31, 16, 17, 18, 19, 20, 21, 22, 23, 24, 25, 26, 27, 28] (by decide) rfl
          obtain rfl : r_61 = r_w := hw.symm
          refine lv_iload hx hb dL_law_416 (lv_at hl 5 rfl) ?_
          refine lv_iconst (v := 1) hx hb dL_law_418 (by decide) ?_
          refine lv_iadd hx hb dL_law_419 ?_
          refine lv_icmp_eq (tgt := 501) hx hb dL_law_420 (by decide) (fun c_65 => ?_) (fun c_65 => ?_)
          · have hF := q_if_t c_65 hF
            exact gs_501 hx hb hr hlocks F hK hN hA hZ hbA hX hbl hF hP hD hS (lv_sub hl [0, 1, 2, 3, 4, 7, 9] rfl)
          · have hF := q_if_f c_65 hF
            refine lv_iconst (v := 0) hx hb dL_law_423 (by decide) ?_
            exact absurd hF (by decide)
