set_option maxHeartbeats 8000000 in
set_option maxRecDepth 100000 in
theorem gs_1462 {p : Program} {l : Launch} {e : Env} {s : State} {m : MethodId} {below : List Frame} {meth : Method} {c : Code} {b : Nat} {g : GT} {Z : Nat → Prop} {H : Heap} {locs : List Loc} {ls : Array Slot} {qH qX : Nat} {AX AC AD AP AW AY AK : Nat → Nat} {L : Nat} {xs : Nat → Int32} {σC : qS} {σD : qS} {σP : qS} {σN : qS} {σW : qS} {σY : qS} {σK : qS} {ℓK : qL} {σH : qS} {v2 : Int32} {v4 : Int32} {v7 : Int32} {v9 : Int32} {v16 : Int32}
    (hx : p.tables.exec = Jvm.exec) (hb : c.code = cL_law) (hr : meth.sig.returnType = ret) (hlocks : meth.locks = false) (F : CallFix p m c cL_law 30 s #[Value.ref b] wsL_law RL) (hK : va_K g.1 vwCl (tyL g) s) (hN : NW s) (hA : ∀ q : Nat, s.heap.size ≤ q → Z q) (hZ : Z = fun q => s.heap.size ≤ q) (hbA : ¬ Z b) (hX : va_X b L xs s s.heap) (hbl : b < s.heap.size) (hF : g_1462 L xs σC σD σP σN σW σY σK ℓK σH v2 v4 v7 v9 v16 = some 1)
    (hP : va_P g.1 vwCl (wX6 qX AX ++ wX1 g (AX 0) AC σC ++ wX1 g (AX 1) AD σD ++ wX3 g (AX 3) AP σP ++ wX2 (AX 4) σN ++ wX5 g (AX 5) AW (.ref qH) σW ++ wX4 g (AX 6) AY σY ++ wX0 g (AX 7) AK σK ℓK ++ wH g qH σH) H) (hD : va_D Z (wX6 qX AX ++ wX1 g (AX 0) AC σC ++ wX1 g (AX 1) AD σD ++ wX3 g (AX 3) AP σP ++ wX2 (AX 4) σN ++ wX5 g (AX 5) AW (.ref qH) σW ++ wX4 g (AX 6) AY σY ++ wX0 g (AX 7) AK σK ℓK ++ wH g qH σH)) (hS : va_S Z s.heap H locs) (hl : lv_has ls 30 [(0, .ref b), (1, .ref qX), (2, .int v2), (4, .int v4), (7, .int v7), (9, .int v9), (16, .int v16)]) : W p l e room_1 s m #[Value.ref b] below meth c H locs 200 40000 (lw_Z below #[Value.ref b] s) (F0 m 1462 ls []) := by
  have hts := F.2.2.2.2
  have hown : s.vm.findClass RL = some m.cls := F.2.2.2.1
  dsimp only [g_1462] at hF
  refine lv_iconst (v := 0) hx hb dL_law_1462 (by decide) ?_
  refine lv_istore (lv' := [(17, .int 0), (0, .ref b), (1, .ref qX), (2, .int v2), (4, .int v4), (7, .int v7), (9, .int v9), (16, .int v16)]) hx hb dL_law_1463 hl (by decide) rfl (fun ls hl => ?_)
  refine q_loop (fun u0 => wX6 qX AX ++ wX1 g (AX 0) AC σC ++ wX1 g (AX 1) AD σD ++ wX3 g (AX 3) AP σP ++ wX2 (AX 4) σN ++ wX5 g (AX 5) AW (.ref qH) σW ++ wX4 g (AX 6) AY σY ++ wX0 g (AX 7) AK σK ℓK ++ wH g qH σH) (fun u0 => [(17, .int u0), (0, .ref b), (1, .ref qX), (2, .int v2), (4, .int v4), (7, .int v7), (9, .int v9), (16, .int v16)]) 1582 hF ?_ ?_ hP hD hS (lv_sub hl [0, 1, 2, 3, 4, 5, 6, 7] rfl)
  · rintro v17_1 hF H locs ls hP hD hS hl
    try dsimp only at hF
    have hP : va_P g.1 vwCl (wX6 qX AX ++ wX1 g (AX 0) AC σC ++ wX1 g (AX 1) AD σD ++ wX3 g (AX 3) AP σP ++ wX2 (AX 4) σN ++ wX5 g (AX 5) AW (.ref qH) σW ++ wX4 g (AX 6) AY σY ++ wX0 g (AX 7) AK σK ℓK ++ wH g qH σH) H := hP
    have hD : va_D Z (wX6 qX AX ++ wX1 g (AX 0) AC σC ++ wX1 g (AX 1) AD σD ++ wX3 g (AX 3) AP σP ++ wX2 (AX 4) σN ++ wX5 g (AX 5) AW (.ref qH) σW ++ wX4 g (AX 6) AY σY ++ wX0 g (AX 7) AK σK ℓK ++ wH g qH σH) := hD
    have hl : lv_has ls 30 [(17, .int v17_1), (0, .ref b), (1, .ref qX), (2, .int v2), (4, .int v4), (7, .int v7), (9, .int v9), (16, .int v16)] := hl
    exact gs_1582 hx hb hr hlocks F hK hN hA hZ hbA hX hbl hF hP hD hS (lv_sub hl [1, 2, 3, 4, 5, 6, 7] rfl)
  · rintro k again kk ag v17_1 hF H locs ls hP hD hS hl
    dsimp only [b_L_law_1465] at hF
    have hP : va_P g.1 vwCl (wX6 qX AX ++ wX1 g (AX 0) AC σC ++ wX1 g (AX 1) AD σD ++ wX3 g (AX 3) AP σP ++ wX2 (AX 4) σN ++ wX5 g (AX 5) AW (.ref qH) σW ++ wX4 g (AX 6) AY σY ++ wX0 g (AX 7) AK σK ℓK ++ wH g qH σH) H := hP
    have hD : va_D Z (wX6 qX AX ++ wX1 g (AX 0) AC σC ++ wX1 g (AX 1) AD σD ++ wX3 g (AX 3) AP σP ++ wX2 (AX 4) σN ++ wX5 g (AX 5) AW (.ref qH) σW ++ wX4 g (AX 6) AY σY ++ wX0 g (AX 7) AK σK ℓK ++ wH g qH σH) := hD
    have hl : lv_has ls 30 [(17, .int v17_1), (0, .ref b), (1, .ref qX), (2, .int v2), (4, .int v4), (7, .int v7), (9, .int v9), (16, .int v16)] := hl
    refine lv_iload hx hb dL_law_1465 (lv_at hl 0 rfl) ?_
    refine lv_bipush (v := 10) hx hb dL_law_1467 (by decide) ?_
    refine lv_icmp_ge (tgt := 1582) hx hb dL_law_1469 (by decide) (fun c_2 => ?_) (fun c_2 => ?_)
    · have hF := q_if_t c_2 hF
      exact kk v17_1 hF _ _ _ hP hD hS (lv_sub hl [0, 1, 2, 3, 4, 5, 6, 7] rfl)
    · have hF := q_if_f c_2 hF
      refine lv_aload_n hx hb dL_law_1472 rfl (lv_at hl 1 rfl) ?_
      refine lv_iload hx hb dL_law_1473 (lv_at hl 0 rfl) ?_
      refine lv_bipush (v := 20) hx hb dL_law_1475 (by decide) ?_
      refine lv_iadd hx hb dL_law_1477 ?_
      refine lv_bipush (v := 100) hx hb dL_law_1478 (by decide) ?_
      obtain ⟨r_3, h_4, hF⟩ := q_cl_s hF
      refine gcX (As := [.ref b, .int (v17_1 + 20), .int 100]) (rest := []) F hX hbl hbA hS (m_L_cell l b L xs (v17_1 + 20) (100 : Int32) r_3 h_4) gL_law_L_cell kL_cell rfl rfl rfl ⟨(Nat.le_of_ble_eq_true rfl), (Nat.le_of_ble_eq_true rfl)⟩ rfl rfl hl.1 (Nat.le_of_ble_eq_true rfl) dL_law_1480 ⟨(Nat.le_of_ble_eq_true rfl), (Nat.le_of_ble_eq_true rfl)⟩ ?_
      refine lv_istore (lv' := [(18, .int r_3), (17, .int v17_1), (0, .ref b), (1, .ref qX), (2, .int v2), (4, .int v4), (7, .int v7), (9, .int v9), (16, .int v16)]) hx hb dL_law_1483 hl (by decide) rfl (fun ls hl => ?_)
      refine lv_iload hx hb dL_law_1485 (lv_at hl 1 rfl) ?_
      refine lv_iload hx hb dL_law_1487 (lv_at hl 8 rfl) ?_
      refine lv_icmp_ge (tgt := 1503) hx hb dL_law_1489 (by decide) (fun c_5 => ?_) (fun c_5 => ?_)
      · have hF := q_if_t c_5 hF
        refine lv_iload hx hb dL_law_1503 (lv_at hl 0 rfl) ?_
        refine lv_if_ne (tgt := 1513) hx hb dL_law_1505 (by decide) (fun c_6 => ?_) (fun c_6 => ?_)
        · have hF := q_if_f c_6 hF
          refine lv_iload hx hb dL_law_1513 (lv_at hl 0 rfl) ?_
          refine lv_iconst (v := 1) hx hb dL_law_1515 (by decide) ?_
          refine lv_isub hx hb dL_law_1516 ?_
          refine lv_iload hx hb dL_law_1517 (lv_at hl 8 rfl) ?_
          obtain ⟨n_7, hF⟩ := q_nz_s hF
          refine lv_irem hx hb dL_law_1519 n_7 ?_
          obtain ⟨v19_8, e_9, hF⟩ := q_bd_s hF
          refine gtop e_9 ?_
          refine lv_istore (lv' := [(19, .int v19_8), (18, .int r_3), (17, .int v17_1), (0, .ref b), (1, .ref qX), (2, .int v2), (4, .int v4), (7, .int v7), (9, .int v9), (16, .int v16)]) hx hb dL_law_1520 hl (by decide) rfl (fun ls hl => ?_)
          refine lv_aload_n hx hb dL_law_1522 rfl (lv_at hl 4 rfl) ?_
          refine lv_iload hx hb dL_law_1523 (lv_at hl 2 rfl) ?_
          refine lv_iload hx hb dL_law_1525 (lv_at hl 1 rfl) ?_
          obtain ⟨r_10, h_11, hF⟩ := q_cl_s hF
          refine gcV_i (As := [.int v17_1, .int r_3]) (rest := []) (ci := 6) (q := (RX6, TX6, 8)) F hK hN hP hD hS hA (m_X6_faded l g H.size qX AX AC σC v17_1 r_3 r_10 h_11) gL_law_X6_faded kX6_faded rfl rfl rfl rfl ⟨(Nat.le_of_ble_eq_true rfl), (Nat.le_of_ble_eq_true rfl)⟩ [0, 1, 2, 3, 4, 5, 6, 7, 8] [9, 10, 11, 12, 13, 14, 15, 16, 17, 18, 19, 20, 21, 22, 23, 24, 25, 26, 27, 28, 29, 30, 31] rfl rfl rfl (by decide) rfl rfl rfl rfl rfl hl.1 (Nat.le_of_ble_eq_true rfl) dL_law_1527 ⟨(Nat.le_of_ble_eq_true rfl), (Nat.le_of_ble_eq_true rfl)⟩ (fun r_w u_w H locs hw hP hD hS => ?_)
          have hP : va_P g.1 vwCl ([((AX 1), .inr (1, oC AD (σD 99))), aI g (AD 0) 121 (σD 0), aI g (AD 1) 10 (σD 1), aI g (AD 2) 10 (σD 2), aI g (AD 3) 10 (σD 3), aI g (AD 4) 10 (σD 4), aI g (AD 5) 8 (σD 5), aI g (AD 6) 8 (σD 6), ((AX 3), .inr (3, oX3 AP (σP 99))), aI g (AP 0) 60 (σP 0), ((AX 4), .inr (2, oX2 (σN 99))), ((AX 5), .inr (5, oX5 AW (.ref qH))), aI g (AW 0) 121 (σW 0), aI g (AW 1) 11 (σW 1), ((AX 6), .inr (4, oX4 AY (σY 99))), aI g (AY 0) 410 (σY 0), aI g (AY 1) 50 (σY 1), aI g (AY 2) 10 (σY 2), ((AX 7), .inr (0, oX0 AK)), aJ g (AK 0) 11 (ℓK 0), aJ g (AK 1) 11 (ℓK 1), aI g (AK 2) 61 (σK 2), aI g qH 10240 (σH 0), (qX, .inr (6, oX6 AX)), ((AX 0), .inr (1, oC AC (σC 99))), aI g (AC 0) 121 (σC 0), aI g (AC 1) 10 (σC 1), aI g (AC 2) 10 (σC 2), aI g (AC 3) 10 (σC 3), aI g (AC 4) 10 (σC 4), aI g (AC 5) 8 (σC 5), aI g (AC 6) 8 (σC 6)]) H := hP
          have hD : va_D Z ([((AX 1), .inr (1, oC AD (σD 99))), aI g (AD 0) 121 (σD 0), aI g (AD 1) 10 (σD 1), aI g (AD 2) 10 (σD 2), aI g (AD 3) 10 (σD 3), aI g (AD 4) 10 (σD 4), aI g (AD 5) 8 (σD 5), aI g (AD 6) 8 (σD 6), ((AX 3), .inr (3, oX3 AP (σP 99))), aI g (AP 0) 60 (σP 0), ((AX 4), .inr (2, oX2 (σN 99))), ((AX 5), .inr (5, oX5 AW (.ref qH))), aI g (AW 0) 121 (σW 0), aI g (AW 1) 11 (σW 1), ((AX 6), .inr (4, oX4 AY (σY 99))), aI g (AY 0) 410 (σY 0), aI g (AY 1) 50 (σY 1), aI g (AY 2) 10 (σY 2), ((AX 7), .inr (0, oX0 AK)), aJ g (AK 0) 11 (ℓK 0), aJ g (AK 1) 11 (ℓK 1), aI g (AK 2) 61 (σK 2), aI g qH 10240 (σH 0), (qX, .inr (6, oX6 AX)), ((AX 0), .inr (1, oC AC (σC 99))), aI g (AC 0) 121 (σC 0), aI g (AC 1) 10 (σC 1), aI g (AC 2) 10 (σC 2), aI g (AC 3) 10 (σC 3), aI g (AC 4) 10 (σC 4), aI g (AC 5) 8 (σC 5), aI g (AC 6) 8 (σC 6)]) := hD
          have hP : va_P g.1 vwCl (wX6 qX AX ++ wX1 g (AX 0) AC σC ++ wX1 g (AX 1) AD σD ++ wX3 g (AX 3) AP σP ++ wX2 (AX 4) σN ++ wX5 g (AX 5) AW (.ref qH) σW ++ wX4 g (AX 6) AY σY ++ wX0 g (AX 7) AK σK ℓK ++ wH g qH σH) H := hP.sub [23, 24, 25, 26, 27, 28, 29, 30, 31, 0, 1, 2, 3, 4, 5, 6, 7, 8, 9, 10, 11, 12, 13, 14, 15, 16, 17, 18, 19, 20, 21, 22] rfl
          have hD : va_D Z (wX6 qX AX ++ wX1 g (AX 0) AC σC ++ wX1 g (AX 1) AD σD ++ wX3 g (AX 3) AP σP ++ wX2 (AX 4) σN ++ wX5 g (AX 5) AW (.ref qH) σW ++ wX4 g (AX 6) AY σY ++ wX0 g (AX 7) AK σK ℓK ++ wH g qH σH) := hD.sub [23, 24, 25, 26, 27, 28, 29, 30, 31, 0, 1, 2, 3, 4, 5, 6, 7, 8, 9, 10, 11, 12, 13, 14, 15, 16, 17, 18, 19, 20, 21, 22] (by decide) rfl
          obtain rfl : r_10 = r_w := hw.symm
          refine lv_iload hx hb dL_law_1530 (lv_at hl 0 rfl) ?_
          refine lv_icmp_ne (tgt := 1574) hx hb dL_law_1532 (by decide) (fun c_12 => ?_) (fun c_12 => ?_)
          · have hF := q_if_f c_12 hF
            refine lv_iconst (v := 0) hx hb dL_law_1574 (by decide) ?_
            exact absurd hF (by decide)
          · have hF := q_if_t (by first | exact c_12 | exact Classical.not_not.mp c_12) hF
            refine lv_aload_n hx hb dL_law_1535 rfl (lv_at hl 4 rfl) ?_
            refine lv_iload hx hb dL_law_1536 (lv_at hl 2 rfl) ?_
            refine lv_bipush (v := (-2)) hx hb dL_law_1538 (by decide) ?_
            obtain ⟨r_13, h_14, hF⟩ := q_cl_s hF
            refine gcV_i (As := [.int v17_1, .int (-2)]) (rest := []) (ci := 6) (q := (RX6, TX6, 8)) F hK hN hP hD hS hA (m_X6_faded l g H.size qX AX AC σC v17_1 (-2 : Int32) r_13 h_14) gL_law_X6_faded kX6_faded rfl rfl rfl rfl ⟨(Nat.le_of_ble_eq_true rfl), (Nat.le_of_ble_eq_true rfl)⟩ [0, 1, 2, 3, 4, 5, 6, 7, 8] [9, 10, 11, 12, 13, 14, 15, 16, 17, 18, 19, 20, 21, 22, 23, 24, 25, 26, 27, 28, 29, 30, 31] rfl rfl rfl (by decide) rfl rfl rfl rfl rfl hl.1 (Nat.le_of_ble_eq_true rfl) dL_law_1540 ⟨(Nat.le_of_ble_eq_true rfl), (Nat.le_of_ble_eq_true rfl)⟩ (fun r_w u_w H locs hw hP hD hS => ?_)
            have hP : va_P g.1 vwCl ([((AX 1), .inr (1, oC AD (σD 99))), aI g (AD 0) 121 (σD 0), aI g (AD 1) 10 (σD 1), aI g (AD 2) 10 (σD 2), aI g (AD 3) 10 (σD 3), aI g (AD 4) 10 (σD 4), aI g (AD 5) 8 (σD 5), aI g (AD 6) 8 (σD 6), ((AX 3), .inr (3, oX3 AP (σP 99))), aI g (AP 0) 60 (σP 0), ((AX 4), .inr (2, oX2 (σN 99))), ((AX 5), .inr (5, oX5 AW (.ref qH))), aI g (AW 0) 121 (σW 0), aI g (AW 1) 11 (σW 1), ((AX 6), .inr (4, oX4 AY (σY 99))), aI g (AY 0) 410 (σY 0), aI g (AY 1) 50 (σY 1), aI g (AY 2) 10 (σY 2), ((AX 7), .inr (0, oX0 AK)), aJ g (AK 0) 11 (ℓK 0), aJ g (AK 1) 11 (ℓK 1), aI g (AK 2) 61 (σK 2), aI g qH 10240 (σH 0), (qX, .inr (6, oX6 AX)), ((AX 0), .inr (1, oC AC (σC 99))), aI g (AC 0) 121 (σC 0), aI g (AC 1) 10 (σC 1), aI g (AC 2) 10 (σC 2), aI g (AC 3) 10 (σC 3), aI g (AC 4) 10 (σC 4), aI g (AC 5) 8 (σC 5), aI g (AC 6) 8 (σC 6)]) H := hP
            have hD : va_D Z ([((AX 1), .inr (1, oC AD (σD 99))), aI g (AD 0) 121 (σD 0), aI g (AD 1) 10 (σD 1), aI g (AD 2) 10 (σD 2), aI g (AD 3) 10 (σD 3), aI g (AD 4) 10 (σD 4), aI g (AD 5) 8 (σD 5), aI g (AD 6) 8 (σD 6), ((AX 3), .inr (3, oX3 AP (σP 99))), aI g (AP 0) 60 (σP 0), ((AX 4), .inr (2, oX2 (σN 99))), ((AX 5), .inr (5, oX5 AW (.ref qH))), aI g (AW 0) 121 (σW 0), aI g (AW 1) 11 (σW 1), ((AX 6), .inr (4, oX4 AY (σY 99))), aI g (AY 0) 410 (σY 0), aI g (AY 1) 50 (σY 1), aI g (AY 2) 10 (σY 2), ((AX 7), .inr (0, oX0 AK)), aJ g (AK 0) 11 (ℓK 0), aJ g (AK 1) 11 (ℓK 1), aI g (AK 2) 61 (σK 2), aI g qH 10240 (σH 0), (qX, .inr (6, oX6 AX)), ((AX 0), .inr (1, oC AC (σC 99))), aI g (AC 0) 121 (σC 0), aI g (AC 1) 10 (σC 1), aI g (AC 2) 10 (σC 2), aI g (AC 3) 10 (σC 3), aI g (AC 4) 10 (σC 4), aI g (AC 5) 8 (σC 5), aI g (AC 6) 8 (σC 6)]) := hD
            have hP : va_P g.1 vwCl (wX6 qX AX ++ wX1 g (AX 0) AC σC ++ wX1 g (AX 1) AD σD ++ wX3 g (AX 3) AP σP ++ wX2 (AX 4) σN ++ wX5 g (AX 5) AW (.ref qH) σW ++ wX4 g (AX 6) AY σY ++ wX0 g (AX 7) AK σK ℓK ++ wH g qH σH) H := hP.sub [23, 24, 25, 26, 27, 28, 29, 30, 31, 0, 1, 2, 3, 4, 5, 6, 7, 8, 9, 10, 11, 12, 13, 14, 15, 16, 17, 18, 19, 20, 21, 22] rfl
            have hD : va_D Z (wX6 qX AX ++ wX1 g (AX 0) AC σC ++ wX1 g (AX 1) AD σD ++ wX3 g (AX 3) AP σP ++ wX2 (AX 4) σN ++ wX5 g (AX 5) AW (.ref qH) σW ++ wX4 g (AX 6) AY σY ++ wX0 g (AX 7) AK σK ℓK ++ wH g qH σH) := hD.sub [23, 24, 25, 26, 27, 28, 29, 30, 31, 0, 1, 2, 3, 4, 5, 6, 7, 8, 9, 10, 11, 12, 13, 14, 15, 16, 17, 18, 19, 20, 21, 22] (by decide) rfl
            obtain rfl : r_13 = r_w := hw.symm
            refine lv_iload hx hb dL_law_1543 (lv_at hl 9 rfl) ?_
            refine lv_icmp_ne (tgt := 1574) hx hb dL_law_1545 (by decide) (fun c_15 => ?_) (fun c_15 => ?_)
            · have hF := q_if_f c_15 hF
              refine lv_iconst (v := 0) hx hb dL_law_1574 (by decide) ?_
              exact absurd hF (by decide)
            · have hF := q_if_t (by first | exact c_15 | exact Classical.not_not.mp c_15) hF
              refine lv_aload_n hx hb dL_law_1548 rfl (lv_at hl 4 rfl) ?_
              refine lv_iload hx hb dL_law_1549 (lv_at hl 2 rfl) ?_
              refine lv_iconst (v := (-1)) hx hb dL_law_1551 (by decide) ?_
              obtain ⟨r_16, h_17, hF⟩ := q_cl_s hF
              refine gcV_i (As := [.int v17_1, .int (-1)]) (rest := []) (ci := 6) (q := (RX6, TX6, 8)) F hK hN hP hD hS hA (m_X6_faded l g H.size qX AX AC σC v17_1 (-1 : Int32) r_16 h_17) gL_law_X6_faded kX6_faded rfl rfl rfl rfl ⟨(Nat.le_of_ble_eq_true rfl), (Nat.le_of_ble_eq_true rfl)⟩ [0, 1, 2, 3, 4, 5, 6, 7, 8] [9, 10, 11, 12, 13, 14, 15, 16, 17, 18, 19, 20, 21, 22, 23, 24, 25, 26, 27, 28, 29, 30, 31] rfl rfl rfl (by decide) rfl rfl rfl rfl rfl hl.1 (Nat.le_of_ble_eq_true rfl) dL_law_1552 ⟨(Nat.le_of_ble_eq_true rfl), (Nat.le_of_ble_eq_true rfl)⟩ (fun r_w u_w H locs hw hP hD hS => ?_)
              have hP : va_P g.1 vwCl ([((AX 1), .inr (1, oC AD (σD 99))), aI g (AD 0) 121 (σD 0), aI g (AD 1) 10 (σD 1), aI g (AD 2) 10 (σD 2), aI g (AD 3) 10 (σD 3), aI g (AD 4) 10 (σD 4), aI g (AD 5) 8 (σD 5), aI g (AD 6) 8 (σD 6), ((AX 3), .inr (3, oX3 AP (σP 99))), aI g (AP 0) 60 (σP 0), ((AX 4), .inr (2, oX2 (σN 99))), ((AX 5), .inr (5, oX5 AW (.ref qH))), aI g (AW 0) 121 (σW 0), aI g (AW 1) 11 (σW 1), ((AX 6), .inr (4, oX4 AY (σY 99))), aI g (AY 0) 410 (σY 0), aI g (AY 1) 50 (σY 1), aI g (AY 2) 10 (σY 2), ((AX 7), .inr (0, oX0 AK)), aJ g (AK 0) 11 (ℓK 0), aJ g (AK 1) 11 (ℓK 1), aI g (AK 2) 61 (σK 2), aI g qH 10240 (σH 0), (qX, .inr (6, oX6 AX)), ((AX 0), .inr (1, oC AC (σC 99))), aI g (AC 0) 121 (σC 0), aI g (AC 1) 10 (σC 1), aI g (AC 2) 10 (σC 2), aI g (AC 3) 10 (σC 3), aI g (AC 4) 10 (σC 4), aI g (AC 5) 8 (σC 5), aI g (AC 6) 8 (σC 6)]) H := hP
              have hD : va_D Z ([((AX 1), .inr (1, oC AD (σD 99))), aI g (AD 0) 121 (σD 0), aI g (AD 1) 10 (σD 1), aI g (AD 2) 10 (σD 2), aI g (AD 3) 10 (σD 3), aI g (AD 4) 10 (σD 4), aI g (AD 5) 8 (σD 5), aI g (AD 6) 8 (σD 6), ((AX 3), .inr (3, oX3 AP (σP 99))), aI g (AP 0) 60 (σP 0), ((AX 4), .inr (2, oX2 (σN 99))), ((AX 5), .inr (5, oX5 AW (.ref qH))), aI g (AW 0) 121 (σW 0), aI g (AW 1) 11 (σW 1), ((AX 6), .inr (4, oX4 AY (σY 99))), aI g (AY 0) 410 (σY 0), aI g (AY 1) 50 (σY 1), aI g (AY 2) 10 (σY 2), ((AX 7), .inr (0, oX0 AK)), aJ g (AK 0) 11 (ℓK 0), aJ g (AK 1) 11 (ℓK 1), aI g (AK 2) 61 (σK 2), aI g qH 10240 (σH 0), (qX, .inr (6, oX6 AX)), ((AX 0), .inr (1, oC AC (σC 99))), aI g (AC 0) 121 (σC 0), aI g (AC 1) 10 (σC 1), aI g (AC 2) 10 (σC 2), aI g (AC 3) 10 (σC 3), aI g (AC 4) 10 (σC 4), aI g (AC 5) 8 (σC 5), aI g (AC 6) 8 (σC 6)]) := hD
              have hP : va_P g.1 vwCl (wX6 qX AX ++ wX1 g (AX 0) AC σC ++ wX1 g (AX 1) AD σD ++ wX3 g (AX 3) AP σP ++ wX2 (AX 4) σN ++ wX5 g (AX 5) AW (.ref qH) σW ++ wX4 g (AX 6) AY σY ++ wX0 g (AX 7) AK σK ℓK ++ wH g qH σH) H := hP.sub [23, 24, 25, 26, 27, 28, 29, 30, 31, 0, 1, 2, 3, 4, 5, 6, 7, 8, 9, 10, 11, 12, 13, 14, 15, 16, 17, 18, 19, 20, 21, 22] rfl
              have hD : va_D Z (wX6 qX AX ++ wX1 g (AX 0) AC σC ++ wX1 g (AX 1) AD σD ++ wX3 g (AX 3) AP σP ++ wX2 (AX 4) σN ++ wX5 g (AX 5) AW (.ref qH) σW ++ wX4 g (AX 6) AY σY ++ wX0 g (AX 7) AK σK ℓK ++ wH g qH σH) := hD.sub [23, 24, 25, 26, 27, 28, 29, 30, 31, 0, 1, 2, 3, 4, 5, 6, 7, 8, 9, 10, 11, 12, 13, 14, 15, 16, 17, 18, 19, 20, 21, 22] (by decide) rfl
              obtain rfl : r_16 = r_w := hw.symm
              refine lv_iload hx hb dL_law_1555 (lv_at hl 2 rfl) ?_
              refine lv_iload hx hb dL_law_1557 (lv_at hl 9 rfl) ?_
              refine lv_icmp_ge (tgt := 1567) hx hb dL_law_1559 (by decide) (fun c_18 => ?_) (fun c_18 => ?_)
              · have hF := q_if_t c_18 hF
                refine lv_iload hx hb dL_law_1567 (lv_at hl 9 rfl) ?_
                refine lv_iconst (v := 1) hx hb dL_law_1569 (by decide) ?_
                refine lv_iadd hx hb dL_law_1570 ?_
                refine lv_icmp_eq (tgt := 1576) hx hb dL_law_1571 (by decide) (fun c_19 => ?_) (fun c_19 => ?_)
                · have hF := q_if_t c_19 hF
                  refine lv_iinc (v := v17_1 + 1) (lv' := [(17, .int (v17_1 + 1)), (19, .int v19_8), (18, .int r_3), (0, .ref b), (1, .ref qX), (2, .int v2), (4, .int v4), (7, .int v7), (9, .int v9), (16, .int v16)]) hx hb dL_law_1576 hl (k := 2) rfl rfl (by decide) rfl (fun ls hl => ?_)
                  refine lv_goto (tgt := 1465) hx hb dL_law_1579 (by decide) ?_
                  exact ag (v17_1 + 1) hF _ _ _ hP hD hS (lv_sub hl [0, 3, 4, 5, 6, 7, 8, 9] rfl)
                · have hF := q_if_f c_19 hF
                  refine lv_iconst (v := 0) hx hb dL_law_1574 (by decide) ?_
                  exact absurd hF (by decide)
              · have hF := q_if_f c_18 hF
                refine lv_iload hx hb dL_law_1562 (lv_at hl 9 rfl) ?_
                refine lv_goto (tgt := 1571) hx hb dL_law_1564 (by decide) ?_
                refine lv_icmp_eq (tgt := 1576) hx hb dL_law_1571 (by decide) (fun c_20 => ?_) (fun c_20 => ?_)
                · have hF := q_if_t c_20 hF
                  refine lv_iinc (v := v17_1 + 1) (lv' := [(17, .int (v17_1 + 1)), (19, .int v19_8), (18, .int r_3), (0, .ref b), (1, .ref qX), (2, .int v2), (4, .int v4), (7, .int v7), (9, .int v9), (16, .int v16)]) hx hb dL_law_1576 hl (k := 2) rfl rfl (by decide) rfl (fun ls hl => ?_)
                  refine lv_goto (tgt := 1465) hx hb dL_law_1579 (by decide) ?_
                  exact ag (v17_1 + 1) hF _ _ _ hP hD hS (lv_sub hl [0, 3, 4, 5, 6, 7, 8, 9] rfl)
                · have hF := q_if_f c_20 hF
                  refine lv_iconst (v := 0) hx hb dL_law_1574 (by decide) ?_
                  exact absurd hF (by decide)
        · have hF := q_if_t (by first | exact c_6 | exact Classical.not_not.mp c_6) hF
          refine lv_iload hx hb dL_law_1508 (lv_at hl 1 rfl) ?_
          refine lv_goto (tgt := 1520) hx hb dL_law_1510 (by decide) ?_
          refine lv_istore (lv' := [(19, .int v17_1), (18, .int r_3), (17, .int v17_1), (0, .ref b), (1, .ref qX), (2, .int v2), (4, .int v4), (7, .int v7), (9, .int v9), (16, .int v16)]) hx hb dL_law_1520 hl (by decide) rfl (fun ls hl => ?_)
          refine lv_aload_n hx hb dL_law_1522 rfl (lv_at hl 4 rfl) ?_
          refine lv_iload hx hb dL_law_1523 (lv_at hl 2 rfl) ?_
          refine lv_iload hx hb dL_law_1525 (lv_at hl 1 rfl) ?_
          obtain ⟨r_21, h_22, hF⟩ := q_cl_s hF
          refine gcV_i (As := [.int v17_1, .int r_3]) (rest := []) (ci := 6) (q := (RX6, TX6, 8)) F hK hN hP hD hS hA (m_X6_faded l g H.size qX AX AC σC v17_1 r_3 r_21 h_22) gL_law_X6_faded kX6_faded rfl rfl rfl rfl ⟨(Nat.le_of_ble_eq_true rfl), (Nat.le_of_ble_eq_true rfl)⟩ [0, 1, 2, 3, 4, 5, 6, 7, 8] [9, 10, 11, 12, 13, 14, 15, 16, 17, 18, 19, 20, 21, 22, 23, 24, 25, 26, 27, 28, 29, 30, 31] rfl rfl rfl (by decide) rfl rfl rfl rfl rfl hl.1 (Nat.le_of_ble_eq_true rfl) dL_law_1527 ⟨(Nat.le_of_ble_eq_true rfl), (Nat.le_of_ble_eq_true rfl)⟩ (fun r_w u_w H locs hw hP hD hS => ?_)
          have hP : va_P g.1 vwCl ([((AX 1), .inr (1, oC AD (σD 99))), aI g (AD 0) 121 (σD 0), aI g (AD 1) 10 (σD 1), aI g (AD 2) 10 (σD 2), aI g (AD 3) 10 (σD 3), aI g (AD 4) 10 (σD 4), aI g (AD 5) 8 (σD 5), aI g (AD 6) 8 (σD 6), ((AX 3), .inr (3, oX3 AP (σP 99))), aI g (AP 0) 60 (σP 0), ((AX 4), .inr (2, oX2 (σN 99))), ((AX 5), .inr (5, oX5 AW (.ref qH))), aI g (AW 0) 121 (σW 0), aI g (AW 1) 11 (σW 1), ((AX 6), .inr (4, oX4 AY (σY 99))), aI g (AY 0) 410 (σY 0), aI g (AY 1) 50 (σY 1), aI g (AY 2) 10 (σY 2), ((AX 7), .inr (0, oX0 AK)), aJ g (AK 0) 11 (ℓK 0), aJ g (AK 1) 11 (ℓK 1), aI g (AK 2) 61 (σK 2), aI g qH 10240 (σH 0), (qX, .inr (6, oX6 AX)), ((AX 0), .inr (1, oC AC (σC 99))), aI g (AC 0) 121 (σC 0), aI g (AC 1) 10 (σC 1), aI g (AC 2) 10 (σC 2), aI g (AC 3) 10 (σC 3), aI g (AC 4) 10 (σC 4), aI g (AC 5) 8 (σC 5), aI g (AC 6) 8 (σC 6)]) H := hP
          have hD : va_D Z ([((AX 1), .inr (1, oC AD (σD 99))), aI g (AD 0) 121 (σD 0), aI g (AD 1) 10 (σD 1), aI g (AD 2) 10 (σD 2), aI g (AD 3) 10 (σD 3), aI g (AD 4) 10 (σD 4), aI g (AD 5) 8 (σD 5), aI g (AD 6) 8 (σD 6), ((AX 3), .inr (3, oX3 AP (σP 99))), aI g (AP 0) 60 (σP 0), ((AX 4), .inr (2, oX2 (σN 99))), ((AX 5), .inr (5, oX5 AW (.ref qH))), aI g (AW 0) 121 (σW 0), aI g (AW 1) 11 (σW 1), ((AX 6), .inr (4, oX4 AY (σY 99))), aI g (AY 0) 410 (σY 0), aI g (AY 1) 50 (σY 1), aI g (AY 2) 10 (σY 2), ((AX 7), .inr (0, oX0 AK)), aJ g (AK 0) 11 (ℓK 0), aJ g (AK 1) 11 (ℓK 1), aI g (AK 2) 61 (σK 2), aI g qH 10240 (σH 0), (qX, .inr (6, oX6 AX)), ((AX 0), .inr (1, oC AC (σC 99))), aI g (AC 0) 121 (σC 0), aI g (AC 1) 10 (σC 1), aI g (AC 2) 10 (σC 2), aI g (AC 3) 10 (σC 3), aI g (AC 4) 10 (σC 4), aI g (AC 5) 8 (σC 5), aI g (AC 6) 8 (σC 6)]) := hD
          have hP : va_P g.1 vwCl (wX6 qX AX ++ wX1 g (AX 0) AC σC ++ wX1 g (AX 1) AD σD ++ wX3 g (AX 3) AP σP ++ wX2 (AX 4) σN ++ wX5 g (AX 5) AW (.ref qH) σW ++ wX4 g (AX 6) AY σY ++ wX0 g (AX 7) AK σK ℓK ++ wH g qH σH) H := hP.sub [23, 24, 25, 26, 27, 28, 29, 30, 31, 0, 1, 2, 3, 4, 5, 6, 7, 8, 9, 10, 11, 12, 13, 14, 15, 16, 17, 18, 19, 20, 21, 22] rfl
          have hD : va_D Z (wX6 qX AX ++ wX1 g (AX 0) AC σC ++ wX1 g (AX 1) AD σD ++ wX3 g (AX 3) AP σP ++ wX2 (AX 4) σN ++ wX5 g (AX 5) AW (.ref qH) σW ++ wX4 g (AX 6) AY σY ++ wX0 g (AX 7) AK σK ℓK ++ wH g qH σH) := hD.sub [23, 24, 25, 26, 27, 28, 29, 30, 31, 0, 1, 2, 3, 4, 5, 6, 7, 8, 9, 10, 11, 12, 13, 14, 15, 16, 17, 18, 19, 20, 21, 22] (by decide) rfl
          obtain rfl : r_21 = r_w := hw.symm
          refine lv_iload hx hb dL_law_1530 (lv_at hl 0 rfl) ?_
          refine lv_icmp_ne (tgt := 1574) hx hb dL_law_1532 (by decide) (fun c_23 => ?_) (fun c_23 => ?_)
          · have hF := q_if_f c_23 hF
            refine lv_iconst (v := 0) hx hb dL_law_1574 (by decide) ?_
            exact absurd hF (by decide)
          · have hF := q_if_t (by first | exact c_23 | exact Classical.not_not.mp c_23) hF
            refine lv_aload_n hx hb dL_law_1535 rfl (lv_at hl 4 rfl) ?_
            refine lv_iload hx hb dL_law_1536 (lv_at hl 2 rfl) ?_
            refine lv_bipush (v := (-2)) hx hb dL_law_1538 (by decide) ?_
            obtain ⟨r_24, h_25, hF⟩ := q_cl_s hF
            refine gcV_i (As := [.int v17_1, .int (-2)]) (rest := []) (ci := 6) (q := (RX6, TX6, 8)) F hK hN hP hD hS hA (m_X6_faded l g H.size qX AX AC σC v17_1 (-2 : Int32) r_24 h_25) gL_law_X6_faded kX6_faded rfl rfl rfl rfl ⟨(Nat.le_of_ble_eq_true rfl), (Nat.le_of_ble_eq_true rfl)⟩ [0, 1, 2, 3, 4, 5, 6, 7, 8] [9, 10, 11, 12, 13, 14, 15, 16, 17, 18, 19, 20, 21, 22, 23, 24, 25, 26, 27, 28, 29, 30, 31] rfl rfl rfl (by decide) rfl rfl rfl rfl rfl hl.1 (Nat.le_of_ble_eq_true rfl) dL_law_1540 ⟨(Nat.le_of_ble_eq_true rfl), (Nat.le_of_ble_eq_true rfl)⟩ (fun r_w u_w H locs hw hP hD hS => ?_)
            have hP : va_P g.1 vwCl ([((AX 1), .inr (1, oC AD (σD 99))), aI g (AD 0) 121 (σD 0), aI g (AD 1) 10 (σD 1), aI g (AD 2) 10 (σD 2), aI g (AD 3) 10 (σD 3), aI g (AD 4) 10 (σD 4), aI g (AD 5) 8 (σD 5), aI g (AD 6) 8 (σD 6), ((AX 3), .inr (3, oX3 AP (σP 99))), aI g (AP 0) 60 (σP 0), ((AX 4), .inr (2, oX2 (σN 99))), ((AX 5), .inr (5, oX5 AW (.ref qH))), aI g (AW 0) 121 (σW 0), aI g (AW 1) 11 (σW 1), ((AX 6), .inr (4, oX4 AY (σY 99))), aI g (AY 0) 410 (σY 0), aI g (AY 1) 50 (σY 1), aI g (AY 2) 10 (σY 2), ((AX 7), .inr (0, oX0 AK)), aJ g (AK 0) 11 (ℓK 0), aJ g (AK 1) 11 (ℓK 1), aI g (AK 2) 61 (σK 2), aI g qH 10240 (σH 0), (qX, .inr (6, oX6 AX)), ((AX 0), .inr (1, oC AC (σC 99))), aI g (AC 0) 121 (σC 0), aI g (AC 1) 10 (σC 1), aI g (AC 2) 10 (σC 2), aI g (AC 3) 10 (σC 3), aI g (AC 4) 10 (σC 4), aI g (AC 5) 8 (σC 5), aI g (AC 6) 8 (σC 6)]) H := hP
            have hD : va_D Z ([((AX 1), .inr (1, oC AD (σD 99))), aI g (AD 0) 121 (σD 0), aI g (AD 1) 10 (σD 1), aI g (AD 2) 10 (σD 2), aI g (AD 3) 10 (σD 3), aI g (AD 4) 10 (σD 4), aI g (AD 5) 8 (σD 5), aI g (AD 6) 8 (σD 6), ((AX 3), .inr (3, oX3 AP (σP 99))), aI g (AP 0) 60 (σP 0), ((AX 4), .inr (2, oX2 (σN 99))), ((AX 5), .inr (5, oX5 AW (.ref qH))), aI g (AW 0) 121 (σW 0), aI g (AW 1) 11 (σW 1), ((AX 6), .inr (4, oX4 AY (σY 99))), aI g (AY 0) 410 (σY 0), aI g (AY 1) 50 (σY 1), aI g (AY 2) 10 (σY 2), ((AX 7), .inr (0, oX0 AK)), aJ g (AK 0) 11 (ℓK 0), aJ g (AK 1) 11 (ℓK 1), aI g (AK 2) 61 (σK 2), aI g qH 10240 (σH 0), (qX, .inr (6, oX6 AX)), ((AX 0), .inr (1, oC AC (σC 99))), aI g (AC 0) 121 (σC 0), aI g (AC 1) 10 (σC 1), aI g (AC 2) 10 (σC 2), aI g (AC 3) 10 (σC 3), aI g (AC 4) 10 (σC 4), aI g (AC 5) 8 (σC 5), aI g (AC 6) 8 (σC 6)]) := hD
            have hP : va_P g.1 vwCl (wX6 qX AX ++ wX1 g (AX 0) AC σC ++ wX1 g (AX 1) AD σD ++ wX3 g (AX 3) AP σP ++ wX2 (AX 4) σN ++ wX5 g (AX 5) AW (.ref qH) σW ++ wX4 g (AX 6) AY σY ++ wX0 g (AX 7) AK σK ℓK ++ wH g qH σH) H := hP.sub [23, 24, 25, 26, 27, 28, 29, 30, 31, 0, 1, 2, 3, 4, 5, 6, 7, 8, 9, 10, 11, 12, 13, 14, 15, 16, 17, 18, 19, 20, 21, 22] rfl
            have hD : va_D Z (wX6 qX AX ++ wX1 g (AX 0) AC σC ++ wX1 g (AX 1) AD σD ++ wX3 g (AX 3) AP σP ++ wX2 (AX 4) σN ++ wX5 g (AX 5) AW (.ref qH) σW ++ wX4 g (AX 6) AY σY ++ wX0 g (AX 7) AK σK ℓK ++ wH g qH σH) := hD.sub [23, 24, 25, 26, 27, 28, 29, 30, 31, 0, 1, 2, 3, 4, 5, 6, 7, 8, 9, 10, 11, 12, 13, 14, 15, 16, 17, 18, 19, 20, 21, 22] (by decide) rfl
            obtain rfl : r_24 = r_w := hw.symm
            refine lv_iload hx hb dL_law_1543 (lv_at hl 9 rfl) ?_
            refine lv_icmp_ne (tgt := 1574) hx hb dL_law_1545 (by decide) (fun c_26 => ?_) (fun c_26 => ?_)
            · have hF := q_if_f c_26 hF
              refine lv_iconst (v := 0) hx hb dL_law_1574 (by decide) ?_
              exact absurd hF (by decide)
            · have hF := q_if_t (by first | exact c_26 | exact Classical.not_not.mp c_26) hF
              refine lv_aload_n hx hb dL_law_1548 rfl (lv_at hl 4 rfl) ?_
              refine lv_iload hx hb dL_law_1549 (lv_at hl 2 rfl) ?_
              refine lv_iconst (v := (-1)) hx hb dL_law_1551 (by decide) ?_
              obtain ⟨r_27, h_28, hF⟩ := q_cl_s hF
              refine gcV_i (As := [.int v17_1, .int (-1)]) (rest := []) (ci := 6) (q := (RX6, TX6, 8)) F hK hN hP hD hS hA (m_X6_faded l g H.size qX AX AC σC v17_1 (-1 : Int32) r_27 h_28) gL_law_X6_faded kX6_faded rfl rfl rfl rfl ⟨(Nat.le_of_ble_eq_true rfl), (Nat.le_of_ble_eq_true rfl)⟩ [0, 1, 2, 3, 4, 5, 6, 7, 8] [9, 10, 11, 12, 13, 14, 15, 16, 17, 18, 19, 20, 21, 22, 23, 24, 25, 26, 27, 28, 29, 30, 31] rfl rfl rfl (by decide) rfl rfl rfl rfl rfl hl.1 (Nat.le_of_ble_eq_true rfl) dL_law_1552 ⟨(Nat.le_of_ble_eq_true rfl), (Nat.le_of_ble_eq_true rfl)⟩ (fun r_w u_w H locs hw hP hD hS => ?_)
              have hP : va_P g.1 vwCl ([((AX 1), .inr (1, oC AD (σD 99))), aI g (AD 0) 121 (σD 0), aI g (AD 1) 10 (σD 1), aI g (AD 2) 10 (σD 2), aI g (AD 3) 10 (σD 3), aI g (AD 4) 10 (σD 4), aI g (AD 5) 8 (σD 5), aI g (AD 6) 8 (σD 6), ((AX 3), .inr (3, oX3 AP (σP 99))), aI g (AP 0) 60 (σP 0), ((AX 4), .inr (2, oX2 (σN 99))), ((AX 5), .inr (5, oX5 AW (.ref qH))), aI g (AW 0) 121 (σW 0), aI g (AW 1) 11 (σW 1), ((AX 6), .inr (4, oX4 AY (σY 99))), aI g (AY 0) 410 (σY 0), aI g (AY 1) 50 (σY 1), aI g (AY 2) 10 (σY 2), ((AX 7), .inr (0, oX0 AK)), aJ g (AK 0) 11 (ℓK 0), aJ g (AK 1) 11 (ℓK 1), aI g (AK 2) 61 (σK 2), aI g qH 10240 (σH 0), (qX, .inr (6, oX6 AX)), ((AX 0), .inr (1, oC AC (σC 99))), aI g (AC 0) 121 (σC 0), aI g (AC 1) 10 (σC 1), aI g (AC 2) 10 (σC 2), aI g (AC 3) 10 (σC 3), aI g (AC 4) 10 (σC 4), aI g (AC 5) 8 (σC 5), aI g (AC 6) 8 (σC 6)]) H := hP
              have hD : va_D Z ([((AX 1), .inr (1, oC AD (σD 99))), aI g (AD 0) 121 (σD 0), aI g (AD 1) 10 (σD 1), aI g (AD 2) 10 (σD 2), aI g (AD 3) 10 (σD 3), aI g (AD 4) 10 (σD 4), aI g (AD 5) 8 (σD 5), aI g (AD 6) 8 (σD 6), ((AX 3), .inr (3, oX3 AP (σP 99))), aI g (AP 0) 60 (σP 0), ((AX 4), .inr (2, oX2 (σN 99))), ((AX 5), .inr (5, oX5 AW (.ref qH))), aI g (AW 0) 121 (σW 0), aI g (AW 1) 11 (σW 1), ((AX 6), .inr (4, oX4 AY (σY 99))), aI g (AY 0) 410 (σY 0), aI g (AY 1) 50 (σY 1), aI g (AY 2) 10 (σY 2), ((AX 7), .inr (0, oX0 AK)), aJ g (AK 0) 11 (ℓK 0), aJ g (AK 1) 11 (ℓK 1), aI g (AK 2) 61 (σK 2), aI g qH 10240 (σH 0), (qX, .inr (6, oX6 AX)), ((AX 0), .inr (1, oC AC (σC 99))), aI g (AC 0) 121 (σC 0), aI g (AC 1) 10 (σC 1), aI g (AC 2) 10 (σC 2), aI g (AC 3) 10 (σC 3), aI g (AC 4) 10 (σC 4), aI g (AC 5) 8 (σC 5), aI g (AC 6) 8 (σC 6)]) := hD
              have hP : va_P g.1 vwCl (wX6 qX AX ++ wX1 g (AX 0) AC σC ++ wX1 g (AX 1) AD σD ++ wX3 g (AX 3) AP σP ++ wX2 (AX 4) σN ++ wX5 g (AX 5) AW (.ref qH) σW ++ wX4 g (AX 6) AY σY ++ wX0 g (AX 7) AK σK ℓK ++ wH g qH σH) H := hP.sub [23, 24, 25, 26, 27, 28, 29, 30, 31, 0, 1, 2, 3, 4, 5, 6, 7, 8, 9, 10, 11, 12, 13, 14, 15, 16, 17, 18, 19, 20, 21, 22] rfl
              have hD : va_D Z (wX6 qX AX ++ wX1 g (AX 0) AC σC ++ wX1 g (AX 1) AD σD ++ wX3 g (AX 3) AP σP ++ wX2 (AX 4) σN ++ wX5 g (AX 5) AW (.ref qH) σW ++ wX4 g (AX 6) AY σY ++ wX0 g (AX 7) AK σK ℓK ++ wH g qH σH) := hD.sub [23, 24, 25, 26, 27, 28, 29, 30, 31, 0, 1, 2, 3, 4, 5, 6, 7, 8, 9, 10, 11, 12, 13, 14, 15, 16, 17, 18, 19, 20, 21, 22] (by decide) rfl
              obtain rfl : r_27 = r_w := hw.symm
              refine lv_iload hx hb dL_law_1555 (lv_at hl 2 rfl) ?_
              refine lv_iload hx hb dL_law_1557 (lv_at hl 9 rfl) ?_
              refine lv_icmp_ge (tgt := 1567) hx hb dL_law_1559 (by decide) (fun c_29 => ?_) (fun c_29 => ?_)
              · have hF := q_if_t c_29 hF
                refine lv_iload hx hb dL_law_1567 (lv_at hl 9 rfl) ?_
                refine lv_iconst (v := 1) hx hb dL_law_1569 (by decide) ?_
                refine lv_iadd hx hb dL_law_1570 ?_
                refine lv_icmp_eq (tgt := 1576) hx hb dL_law_1571 (by decide) (fun c_30 => ?_) (fun c_30 => ?_)
                · have hF := q_if_t c_30 hF
                  refine lv_iinc (v := v17_1 + 1) (lv' := [(17, .int (v17_1 + 1)), (19, .int v17_1), (18, .int r_3), (0, .ref b), (1, .ref qX), (2, .int v2), (4, .int v4), (7, .int v7), (9, .int v9), (16, .int v16)]) hx hb dL_law_1576 hl (k := 2) rfl rfl (by decide) rfl (fun ls hl => ?_)
                  refine lv_goto (tgt := 1465) hx hb dL_law_1579 (by decide) ?_
                  exact ag (v17_1 + 1) hF _ _ _ hP hD hS (lv_sub hl [0, 3, 4, 5, 6, 7, 8, 9] rfl)
                · have hF := q_if_f c_30 hF
                  refine lv_iconst (v := 0) hx hb dL_law_1574 (by decide) ?_
                  exact absurd hF (by decide)
              · have hF := q_if_f c_29 hF
                refine lv_iload hx hb dL_law_1562 (lv_at hl 9 rfl) ?_
                refine lv_goto (tgt := 1571) hx hb dL_law_1564 (by decide) ?_
                refine lv_icmp_eq (tgt := 1576) hx hb dL_law_1571 (by decide) (fun c_31 => ?_) (fun c_31 => ?_)
                · have hF := q_if_t c_31 hF
                  refine lv_iinc (v := v17_1 + 1) (lv' := [(17, .int (v17_1 + 1)), (19, .int v17_1), (18, .int r_3), (0, .ref b), (1, .ref qX), (2, .int v2), (4, .int v4), (7, .int v7), (9, .int v9), (16, .int v16)]) hx hb dL_law_1576 hl (k := 2) rfl rfl (by decide) rfl (fun ls hl => ?_)
                  refine lv_goto (tgt := 1465) hx hb dL_law_1579 (by decide) ?_
                  exact ag (v17_1 + 1) hF _ _ _ hP hD hS (lv_sub hl [0, 3, 4, 5, 6, 7, 8, 9] rfl)
                · have hF := q_if_f c_31 hF
                  refine lv_iconst (v := 0) hx hb dL_law_1574 (by decide) ?_
                  exact absurd hF (by decide)
      · have hF := q_if_f c_5 hF
        refine lv_iload hx hb dL_law_1492 (lv_at hl 1 rfl) ?_
        refine lv_iload hx hb dL_law_1494 (lv_at hl 0 rfl) ?_
        refine lv_iadd hx hb dL_law_1496 ?_
        refine lv_iload hx hb dL_law_1497 (lv_at hl 8 rfl) ?_
        obtain ⟨n_32, hF⟩ := q_nz_s hF
        refine lv_irem hx hb dL_law_1499 n_32 ?_
        refine lv_goto (tgt := 1520) hx hb dL_law_1500 (by decide) ?_
        obtain ⟨v19_33, e_34, hF⟩ := q_bd_s hF
        refine gtop e_34 ?_
        refine lv_istore (lv' := [(19, .int v19_33), (18, .int r_3), (17, .int v17_1), (0, .ref b), (1, .ref qX), (2, .int v2), (4, .int v4), (7, .int v7), (9, .int v9), (16, .int v16)]) hx hb dL_law_1520 hl (by decide) rfl (fun ls hl => ?_)
        refine lv_aload_n hx hb dL_law_1522 rfl (lv_at hl 4 rfl) ?_
        refine lv_iload hx hb dL_law_1523 (lv_at hl 2 rfl) ?_
        refine lv_iload hx hb dL_law_1525 (lv_at hl 1 rfl) ?_
        obtain ⟨r_35, h_36, hF⟩ := q_cl_s hF
        refine gcV_i (As := [.int v17_1, .int r_3]) (rest := []) (ci := 6) (q := (RX6, TX6, 8)) F hK hN hP hD hS hA (m_X6_faded l g H.size qX AX AC σC v17_1 r_3 r_35 h_36) gL_law_X6_faded kX6_faded rfl rfl rfl rfl ⟨(Nat.le_of_ble_eq_true rfl), (Nat.le_of_ble_eq_true rfl)⟩ [0, 1, 2, 3, 4, 5, 6, 7, 8] [9, 10, 11, 12, 13, 14, 15, 16, 17, 18, 19, 20, 21, 22, 23, 24, 25, 26, 27, 28, 29, 30, 31] rfl rfl rfl (by decide) rfl rfl rfl rfl rfl hl.1 (Nat.le_of_ble_eq_true rfl) dL_law_1527 ⟨(Nat.le_of_ble_eq_true rfl), (Nat.le_of_ble_eq_true rfl)⟩ (fun r_w u_w H locs hw hP hD hS => ?_)
        have hP : va_P g.1 vwCl ([((AX 1), .inr (1, oC AD (σD 99))), aI g (AD 0) 121 (σD 0), aI g (AD 1) 10 (σD 1), aI g (AD 2) 10 (σD 2), aI g (AD 3) 10 (σD 3), aI g (AD 4) 10 (σD 4), aI g (AD 5) 8 (σD 5), aI g (AD 6) 8 (σD 6), ((AX 3), .inr (3, oX3 AP (σP 99))), aI g (AP 0) 60 (σP 0), ((AX 4), .inr (2, oX2 (σN 99))), ((AX 5), .inr (5, oX5 AW (.ref qH))), aI g (AW 0) 121 (σW 0), aI g (AW 1) 11 (σW 1), ((AX 6), .inr (4, oX4 AY (σY 99))), aI g (AY 0) 410 (σY 0), aI g (AY 1) 50 (σY 1), aI g (AY 2) 10 (σY 2), ((AX 7), .inr (0, oX0 AK)), aJ g (AK 0) 11 (ℓK 0), aJ g (AK 1) 11 (ℓK 1), aI g (AK 2) 61 (σK 2), aI g qH 10240 (σH 0), (qX, .inr (6, oX6 AX)), ((AX 0), .inr (1, oC AC (σC 99))), aI g (AC 0) 121 (σC 0), aI g (AC 1) 10 (σC 1), aI g (AC 2) 10 (σC 2), aI g (AC 3) 10 (σC 3), aI g (AC 4) 10 (σC 4), aI g (AC 5) 8 (σC 5), aI g (AC 6) 8 (σC 6)]) H := hP
        have hD : va_D Z ([((AX 1), .inr (1, oC AD (σD 99))), aI g (AD 0) 121 (σD 0), aI g (AD 1) 10 (σD 1), aI g (AD 2) 10 (σD 2), aI g (AD 3) 10 (σD 3), aI g (AD 4) 10 (σD 4), aI g (AD 5) 8 (σD 5), aI g (AD 6) 8 (σD 6), ((AX 3), .inr (3, oX3 AP (σP 99))), aI g (AP 0) 60 (σP 0), ((AX 4), .inr (2, oX2 (σN 99))), ((AX 5), .inr (5, oX5 AW (.ref qH))), aI g (AW 0) 121 (σW 0), aI g (AW 1) 11 (σW 1), ((AX 6), .inr (4, oX4 AY (σY 99))), aI g (AY 0) 410 (σY 0), aI g (AY 1) 50 (σY 1), aI g (AY 2) 10 (σY 2), ((AX 7), .inr (0, oX0 AK)), aJ g (AK 0) 11 (ℓK 0), aJ g (AK 1) 11 (ℓK 1), aI g (AK 2) 61 (σK 2), aI g qH 10240 (σH 0), (qX, .inr (6, oX6 AX)), ((AX 0), .inr (1, oC AC (σC 99))), aI g (AC 0) 121 (σC 0), aI g (AC 1) 10 (σC 1), aI g (AC 2) 10 (σC 2), aI g (AC 3) 10 (σC 3), aI g (AC 4) 10 (σC 4), aI g (AC 5) 8 (σC 5), aI g (AC 6) 8 (σC 6)]) := hD
        have hP : va_P g.1 vwCl (wX6 qX AX ++ wX1 g (AX 0) AC σC ++ wX1 g (AX 1) AD σD ++ wX3 g (AX 3) AP σP ++ wX2 (AX 4) σN ++ wX5 g (AX 5) AW (.ref qH) σW ++ wX4 g (AX 6) AY σY ++ wX0 g (AX 7) AK σK ℓK ++ wH g qH σH) H := hP.sub [23, 24, 25, 26, 27, 28, 29, 30, 31, 0, 1, 2, 3, 4, 5, 6, 7, 8, 9, 10, 11, 12, 13, 14, 15, 16, 17, 18, 19, 20, 21, 22] rfl
        have hD : va_D Z (wX6 qX AX ++ wX1 g (AX 0) AC σC ++ wX1 g (AX 1) AD σD ++ wX3 g (AX 3) AP σP ++ wX2 (AX 4) σN ++ wX5 g (AX 5) AW (.ref qH) σW ++ wX4 g (AX 6) AY σY ++ wX0 g (AX 7) AK σK ℓK ++ wH g qH σH) := hD.sub [23, 24, 25, 26, 27, 28, 29, 30, 31, 0, 1, 2, 3, 4, 5, 6, 7, 8, 9, 10, 11, 12, 13, 14, 15, 16, 17, 18, 19, 20, 21, 22] (by decide) rfl
        obtain rfl : r_35 = r_w := hw.symm
        refine lv_iload hx hb dL_law_1530 (lv_at hl 0 rfl) ?_
        refine lv_icmp_ne (tgt := 1574) hx hb dL_law_1532 (by decide) (fun c_37 => ?_) (fun c_37 => ?_)
        · have hF := q_if_f c_37 hF
          refine lv_iconst (v := 0) hx hb dL_law_1574 (by decide) ?_
          exact absurd hF (by decide)
        · have hF := q_if_t (by first | exact c_37 | exact Classical.not_not.mp c_37) hF
          refine lv_aload_n hx hb dL_law_1535 rfl (lv_at hl 4 rfl) ?_
          refine lv_iload hx hb dL_law_1536 (lv_at hl 2 rfl) ?_
          refine lv_bipush (v := (-2)) hx hb dL_law_1538 (by decide) ?_
          obtain ⟨r_38, h_39, hF⟩ := q_cl_s hF
          refine gcV_i (As := [.int v17_1, .int (-2)]) (rest := []) (ci := 6) (q := (RX6, TX6, 8)) F hK hN hP hD hS hA (m_X6_faded l g H.size qX AX AC σC v17_1 (-2 : Int32) r_38 h_39) gL_law_X6_faded kX6_faded rfl rfl rfl rfl ⟨(Nat.le_of_ble_eq_true rfl), (Nat.le_of_ble_eq_true rfl)⟩ [0, 1, 2, 3, 4, 5, 6, 7, 8] [9, 10, 11, 12, 13, 14, 15, 16, 17, 18, 19, 20, 21, 22, 23, 24, 25, 26, 27, 28, 29, 30, 31] rfl rfl rfl (by decide) rfl rfl rfl rfl rfl hl.1 (Nat.le_of_ble_eq_true rfl) dL_law_1540 ⟨(Nat.le_of_ble_eq_true rfl), (Nat.le_of_ble_eq_true rfl)⟩ (fun r_w u_w H locs hw hP hD hS => ?_)
          have hP : va_P g.1 vwCl ([((AX 1), .inr (1, oC AD (σD 99))), aI g (AD 0) 121 (σD 0), aI g (AD 1) 10 (σD 1), aI g (AD 2) 10 (σD 2), aI g (AD 3) 10 (σD 3), aI g (AD 4) 10 (σD 4), aI g (AD 5) 8 (σD 5), aI g (AD 6) 8 (σD 6), ((AX 3), .inr (3, oX3 AP (σP 99))), aI g (AP 0) 60 (σP 0), ((AX 4), .inr (2, oX2 (σN 99))), ((AX 5), .inr (5, oX5 AW (.ref qH))), aI g (AW 0) 121 (σW 0), aI g (AW 1) 11 (σW 1), ((AX 6), .inr (4, oX4 AY (σY 99))), aI g (AY 0) 410 (σY 0), aI g (AY 1) 50 (σY 1), aI g (AY 2) 10 (σY 2), ((AX 7), .inr (0, oX0 AK)), aJ g (AK 0) 11 (ℓK 0), aJ g (AK 1) 11 (ℓK 1), aI g (AK 2) 61 (σK 2), aI g qH 10240 (σH 0), (qX, .inr (6, oX6 AX)), ((AX 0), .inr (1, oC AC (σC 99))), aI g (AC 0) 121 (σC 0), aI g (AC 1) 10 (σC 1), aI g (AC 2) 10 (σC 2), aI g (AC 3) 10 (σC 3), aI g (AC 4) 10 (σC 4), aI g (AC 5) 8 (σC 5), aI g (AC 6) 8 (σC 6)]) H := hP
          have hD : va_D Z ([((AX 1), .inr (1, oC AD (σD 99))), aI g (AD 0) 121 (σD 0), aI g (AD 1) 10 (σD 1), aI g (AD 2) 10 (σD 2), aI g (AD 3) 10 (σD 3), aI g (AD 4) 10 (σD 4), aI g (AD 5) 8 (σD 5), aI g (AD 6) 8 (σD 6), ((AX 3), .inr (3, oX3 AP (σP 99))), aI g (AP 0) 60 (σP 0), ((AX 4), .inr (2, oX2 (σN 99))), ((AX 5), .inr (5, oX5 AW (.ref qH))), aI g (AW 0) 121 (σW 0), aI g (AW 1) 11 (σW 1), ((AX 6), .inr (4, oX4 AY (σY 99))), aI g (AY 0) 410 (σY 0), aI g (AY 1) 50 (σY 1), aI g (AY 2) 10 (σY 2), ((AX 7), .inr (0, oX0 AK)), aJ g (AK 0) 11 (ℓK 0), aJ g (AK 1) 11 (ℓK 1), aI g (AK 2) 61 (σK 2), aI g qH 10240 (σH 0), (qX, .inr (6, oX6 AX)), ((AX 0), .inr (1, oC AC (σC 99))), aI g (AC 0) 121 (σC 0), aI g (AC 1) 10 (σC 1), aI g (AC 2) 10 (σC 2), aI g (AC 3) 10 (σC 3), aI g (AC 4) 10 (σC 4), aI g (AC 5) 8 (σC 5), aI g (AC 6) 8 (σC 6)]) := hD
          have hP : va_P g.1 vwCl (wX6 qX AX ++ wX1 g (AX 0) AC σC ++ wX1 g (AX 1) AD σD ++ wX3 g (AX 3) AP σP ++ wX2 (AX 4) σN ++ wX5 g (AX 5) AW (.ref qH) σW ++ wX4 g (AX 6) AY σY ++ wX0 g (AX 7) AK σK ℓK ++ wH g qH σH) H := hP.sub [23, 24, 25, 26, 27, 28, 29, 30, 31, 0, 1, 2, 3, 4, 5, 6, 7, 8, 9, 10, 11, 12, 13, 14, 15, 16, 17, 18, 19, 20, 21, 22] rfl
          have hD : va_D Z (wX6 qX AX ++ wX1 g (AX 0) AC σC ++ wX1 g (AX 1) AD σD ++ wX3 g (AX 3) AP σP ++ wX2 (AX 4) σN ++ wX5 g (AX 5) AW (.ref qH) σW ++ wX4 g (AX 6) AY σY ++ wX0 g (AX 7) AK σK ℓK ++ wH g qH σH) := hD.sub [23, 24, 25, 26, 27, 28, 29, 30, 31, 0, 1, 2, 3, 4, 5, 6, 7, 8, 9, 10, 11, 12, 13, 14, 15, 16, 17, 18, 19, 20, 21, 22] (by decide) rfl
          obtain rfl : r_38 = r_w := hw.symm
          refine lv_iload hx hb dL_law_1543 (lv_at hl 9 rfl) ?_
          refine lv_icmp_ne (tgt := 1574) hx hb dL_law_1545 (by decide) (fun c_40 => ?_) (fun c_40 => ?_)
          · have hF := q_if_f c_40 hF
            refine lv_iconst (v := 0) hx hb dL_law_1574 (by decide) ?_
            exact absurd hF (by decide)
          · have hF := q_if_t (by first | exact c_40 | exact Classical.not_not.mp c_40) hF
            refine lv_aload_n hx hb dL_law_1548 rfl (lv_at hl 4 rfl) ?_
            refine lv_iload hx hb dL_law_1549 (lv_at hl 2 rfl) ?_
            refine lv_iconst (v := (-1)) hx hb dL_law_1551 (by decide) ?_
            obtain ⟨r_41, h_42, hF⟩ := q_cl_s hF
            refine gcV_i (As := [.int v17_1, .int (-1)]) (rest := []) (ci := 6) (q := (RX6, TX6, 8)) F hK hN hP hD hS hA (m_X6_faded l g H.size qX AX AC σC v17_1 (-1 : Int32) r_41 h_42) gL_law_X6_faded kX6_faded rfl rfl rfl rfl ⟨(Nat.le_of_ble_eq_true rfl), (Nat.le_of_ble_eq_true rfl)⟩ [0, 1, 2, 3, 4, 5, 6, 7, 8] [9, 10, 11, 12, 13, 14, 15, 16, 17, 18, 19, 20, 21, 22, 23, 24, 25, 26, 27, 28, 29, 30, 31] rfl rfl rfl (by decide) rfl rfl rfl rfl rfl hl.1 (Nat.le_of_ble_eq_true rfl) dL_law_1552 ⟨(Nat.le_of_ble_eq_true rfl), (Nat.le_of_ble_eq_true rfl)⟩ (fun r_w u_w H locs hw hP hD hS => ?_)
            have hP : va_P g.1 vwCl ([((AX 1), .inr (1, oC AD (σD 99))), aI g (AD 0) 121 (σD 0), aI g (AD 1) 10 (σD 1), aI g (AD 2) 10 (σD 2), aI g (AD 3) 10 (σD 3), aI g (AD 4) 10 (σD 4), aI g (AD 5) 8 (σD 5), aI g (AD 6) 8 (σD 6), ((AX 3), .inr (3, oX3 AP (σP 99))), aI g (AP 0) 60 (σP 0), ((AX 4), .inr (2, oX2 (σN 99))), ((AX 5), .inr (5, oX5 AW (.ref qH))), aI g (AW 0) 121 (σW 0), aI g (AW 1) 11 (σW 1), ((AX 6), .inr (4, oX4 AY (σY 99))), aI g (AY 0) 410 (σY 0), aI g (AY 1) 50 (σY 1), aI g (AY 2) 10 (σY 2), ((AX 7), .inr (0, oX0 AK)), aJ g (AK 0) 11 (ℓK 0), aJ g (AK 1) 11 (ℓK 1), aI g (AK 2) 61 (σK 2), aI g qH 10240 (σH 0), (qX, .inr (6, oX6 AX)), ((AX 0), .inr (1, oC AC (σC 99))), aI g (AC 0) 121 (σC 0), aI g (AC 1) 10 (σC 1), aI g (AC 2) 10 (σC 2), aI g (AC 3) 10 (σC 3), aI g (AC 4) 10 (σC 4), aI g (AC 5) 8 (σC 5), aI g (AC 6) 8 (σC 6)]) H := hP
            have hD : va_D Z ([((AX 1), .inr (1, oC AD (σD 99))), aI g (AD 0) 121 (σD 0), aI g (AD 1) 10 (σD 1), aI g (AD 2) 10 (σD 2), aI g (AD 3) 10 (σD 3), aI g (AD 4) 10 (σD 4), aI g (AD 5) 8 (σD 5), aI g (AD 6) 8 (σD 6), ((AX 3), .inr (3, oX3 AP (σP 99))), aI g (AP 0) 60 (σP 0), ((AX 4), .inr (2, oX2 (σN 99))), ((AX 5), .inr (5, oX5 AW (.ref qH))), aI g (AW 0) 121 (σW 0), aI g (AW 1) 11 (σW 1), ((AX 6), .inr (4, oX4 AY (σY 99))), aI g (AY 0) 410 (σY 0), aI g (AY 1) 50 (σY 1), aI g (AY 2) 10 (σY 2), ((AX 7), .inr (0, oX0 AK)), aJ g (AK 0) 11 (ℓK 0), aJ g (AK 1) 11 (ℓK 1), aI g (AK 2) 61 (σK 2), aI g qH 10240 (σH 0), (qX, .inr (6, oX6 AX)), ((AX 0), .inr (1, oC AC (σC 99))), aI g (AC 0) 121 (σC 0), aI g (AC 1) 10 (σC 1), aI g (AC 2) 10 (σC 2), aI g (AC 3) 10 (σC 3), aI g (AC 4) 10 (σC 4), aI g (AC 5) 8 (σC 5), aI g (AC 6) 8 (σC 6)]) := hD
            have hP : va_P g.1 vwCl (wX6 qX AX ++ wX1 g (AX 0) AC σC ++ wX1 g (AX 1) AD σD ++ wX3 g (AX 3) AP σP ++ wX2 (AX 4) σN ++ wX5 g (AX 5) AW (.ref qH) σW ++ wX4 g (AX 6) AY σY ++ wX0 g (AX 7) AK σK ℓK ++ wH g qH σH) H := hP.sub [23, 24, 25, 26, 27, 28, 29, 30, 31, 0, 1, 2, 3, 4, 5, 6, 7, 8, 9, 10, 11, 12, 13, 14, 15, 16, 17, 18, 19, 20, 21, 22] rfl
            have hD : va_D Z (wX6 qX AX ++ wX1 g (AX 0) AC σC ++ wX1 g (AX 1) AD σD ++ wX3 g (AX 3) AP σP ++ wX2 (AX 4) σN ++ wX5 g (AX 5) AW (.ref qH) σW ++ wX4 g (AX 6) AY σY ++ wX0 g (AX 7) AK σK ℓK ++ wH g qH σH) := hD.sub [23, 24, 25, 26, 27, 28, 29, 30, 31, 0, 1, 2, 3, 4, 5, 6, 7, 8, 9, 10, 11, 12, 13, 14, 15, 16, 17, 18, 19, 20, 21, 22] (by decide) rfl
            obtain rfl : r_41 = r_w := hw.symm
            refine lv_iload hx hb dL_law_1555 (lv_at hl 2 rfl) ?_
            refine lv_iload hx hb dL_law_1557 (lv_at hl 9 rfl) ?_
            refine lv_icmp_ge (tgt := 1567) hx hb dL_law_1559 (by decide) (fun c_43 => ?_) (fun c_43 => ?_)
            · have hF := q_if_t c_43 hF
              refine lv_iload hx hb dL_law_1567 (lv_at hl 9 rfl) ?_
              refine lv_iconst (v := 1) hx hb dL_law_1569 (by decide) ?_
              refine lv_iadd hx hb dL_law_1570 ?_
              refine lv_icmp_eq (tgt := 1576) hx hb dL_law_1571 (by decide) (fun c_44 => ?_) (fun c_44 => ?_)
              · have hF := q_if_t c_44 hF
                refine lv_iinc (v := v17_1 + 1) (lv' := [(17, .int (v17_1 + 1)), (19, .int v19_33), (18, .int r_3), (0, .ref b), (1, .ref qX), (2, .int v2), (4, .int v4), (7, .int v7), (9, .int v9), (16, .int v16)]) hx hb dL_law_1576 hl (k := 2) rfl rfl (by decide) rfl (fun ls hl => ?_)
                refine lv_goto (tgt := 1465) hx hb dL_law_1579 (by decide) ?_
                exact ag (v17_1 + 1) hF _ _ _ hP hD hS (lv_sub hl [0, 3, 4, 5, 6, 7, 8, 9] rfl)
              · have hF := q_if_f c_44 hF
                refine lv_iconst (v := 0) hx hb dL_law_1574 (by decide) ?_
                exact absurd hF (by decide)
            · have hF := q_if_f c_43 hF
              refine lv_iload hx hb dL_law_1562 (lv_at hl 9 rfl) ?_
              refine lv_goto (tgt := 1571) hx hb dL_law_1564 (by decide) ?_
              refine lv_icmp_eq (tgt := 1576) hx hb dL_law_1571 (by decide) (fun c_45 => ?_) (fun c_45 => ?_)
              · have hF := q_if_t c_45 hF
                refine lv_iinc (v := v17_1 + 1) (lv' := [(17, .int (v17_1 + 1)), (19, .int v19_33), (18, .int r_3), (0, .ref b), (1, .ref qX), (2, .int v2), (4, .int v4), (7, .int v7), (9, .int v9), (16, .int v16)]) hx hb dL_law_1576 hl (k := 2) rfl rfl (by decide) rfl (fun ls hl => ?_)
                refine lv_goto (tgt := 1465) hx hb dL_law_1579 (by decide) ?_
                exact ag (v17_1 + 1) hF _ _ _ hP hD hS (lv_sub hl [0, 3, 4, 5, 6, 7, 8, 9] rfl)
              · have hF := q_if_f c_45 hF
                refine lv_iconst (v := 0) hx hb dL_law_1574 (by decide) ?_
                exact absurd hF (by decide)
