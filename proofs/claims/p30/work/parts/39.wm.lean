set_option maxHeartbeats 32000000 in
set_option maxRecDepth 100000 in
theorem gs_1405 {p : Program} {l : Launch} {e : Env} {s : State} {m : MethodId} {below : List Frame} {meth : Method} {c : Code} {b : Nat} {g : GT} {Z : Nat → Prop} {H : Heap} {locs : List Loc} {ls : Array Slot} {qH qX : Nat} {AX AC AD AP AW AY AK : Nat → Nat} {L : Nat} {xs : Nat → Int32} {σC : qS} {σD : qS} {σP : qS} {σN : qS} {σW : qS} {σY : qS} {σK : qS} {ℓK : qL} {σH : qS} {v2 : Int32} {v4 : Int32} {v7 : Int32} {v9 : Int32}
    (hx : p.tables.exec = Jvm.exec) (hb : c.code = cL_law) (hr : meth.sig.returnType = ret) (hlocks : meth.locks = false) (F : CallFix p m c cL_law 30 s #[Value.ref b] wsL_law RL) (hK : va_K g.1 vwCl (tyL g) s) (hN : NW s) (hA : ∀ q : Nat, s.heap.size ≤ q → Z q) (hZ : Z = fun q => s.heap.size ≤ q) (hbA : ¬ Z b) (hX : va_X b L xs s s.heap) (hbl : b < s.heap.size) (hF : g_1405 L xs σC σD σP σN σW σY σK ℓK σH v2 v4 v7 v9 = some 1)
    (hP : va_P g.1 vwCl (wX6 qX AX ++ wX1 g (AX 0) AC σC ++ wX1 g (AX 1) AD σD ++ wX3 g (AX 3) AP σP ++ wX2 (AX 4) σN ++ wX5 g (AX 5) AW (.ref qH) σW ++ wX4 g (AX 6) AY σY ++ wX0 g (AX 7) AK σK ℓK ++ wH g qH σH) H) (hD : va_D Z (wX6 qX AX ++ wX1 g (AX 0) AC σC ++ wX1 g (AX 1) AD σD ++ wX3 g (AX 3) AP σP ++ wX2 (AX 4) σN ++ wX5 g (AX 5) AW (.ref qH) σW ++ wX4 g (AX 6) AY σY ++ wX0 g (AX 7) AK σK ℓK ++ wH g qH σH)) (hS : va_S Z s.heap H locs) (hl : lv_has ls 30 [(0, .ref b), (1, .ref qX), (2, .int v2), (4, .int v4), (7, .int v7), (9, .int v9)]) : W p l e room_1 s m #[Value.ref b] below meth c H locs 200 40000 (lw_Z below #[Value.ref b] s) (F0 m 1405 ls []) := by
  have hts := F.2.2.2.2
  have hown : s.vm.findClass RL = some m.cls := F.2.2.2.1
  dsimp only [g_1405] at hF
  refine lv_iconst (v := 1) hx hb dL_law_1405 (by decide) ?_
  refine lv_aload_n hx hb dL_law_1406 rfl (lv_at hl 0 rfl) ?_
  refine lv_iconst (v := 5) hx hb dL_law_1407 (by decide) ?_
  refine lv_bipush (v := 10) hx hb dL_law_1408 (by decide) ?_
  obtain ⟨r_1, h_2, hF⟩ := q_cl_s hF
  refine gcX (As := [.ref b, .int 5, .int 10]) (rest := [.int 1]) F hX hbl hbA hS (m_L_cell l b L xs (5 : Int32) (10 : Int32) r_1 h_2) gL_law_L_cell kL_cell rfl rfl rfl ⟨(Nat.le_of_ble_eq_true rfl), (Nat.le_of_ble_eq_true rfl)⟩ rfl rfl hl.1 (Nat.le_of_ble_eq_true rfl) dL_law_1410 ⟨(Nat.le_of_ble_eq_true rfl), (Nat.le_of_ble_eq_true rfl)⟩ ?_
  refine lv_iadd hx hb dL_law_1413 ?_
  obtain ⟨v16_3, e_4, hF⟩ := q_bd_s hF
  refine gtop e_4 ?_
  refine lv_istore (lv' := [(16, .int v16_3), (0, .ref b), (1, .ref qX), (2, .int v2), (4, .int v4), (7, .int v7), (9, .int v9)]) hx hb dL_law_1414 hl (by decide) rfl (fun ls hl => ?_)
  refine lv_iconst (v := 0) hx hb dL_law_1416 (by decide) ?_
  refine lv_istore (lv' := [(17, .int 0), (16, .int v16_3), (0, .ref b), (1, .ref qX), (2, .int v2), (4, .int v4), (7, .int v7), (9, .int v9)]) hx hb dL_law_1417 hl (by decide) rfl (fun ls hl => ?_)
  refine q_loop (fun u0 => wX6 qX AX ++ wX1 g (AX 0) AC u0.2 ++ wX1 g (AX 1) AD σD ++ wX3 g (AX 3) AP σP ++ wX2 (AX 4) σN ++ wX5 g (AX 5) AW (.ref qH) σW ++ wX4 g (AX 6) AY σY ++ wX0 g (AX 7) AK σK ℓK ++ wH g qH σH) (fun u0 => [(17, .int u0.1), (16, .int v16_3), (0, .ref b), (1, .ref qX), (2, .int v2), (4, .int v4), (7, .int v7), (9, .int v9)]) 1462 hF ?_ ?_ (by exact hP) (by exact hD) hS (lv_sub hl [0, 1, 2, 3, 4, 5, 6, 7] rfl)
  · rintro ⟨v17_5, σC_5⟩ hF H locs ls hP hD hS hl
    try dsimp only at hF
    have hP : va_P g.1 vwCl (wX6 qX AX ++ wX1 g (AX 0) AC σC_5 ++ wX1 g (AX 1) AD σD ++ wX3 g (AX 3) AP σP ++ wX2 (AX 4) σN ++ wX5 g (AX 5) AW (.ref qH) σW ++ wX4 g (AX 6) AY σY ++ wX0 g (AX 7) AK σK ℓK ++ wH g qH σH) H := hP
    have hD : va_D Z (wX6 qX AX ++ wX1 g (AX 0) AC σC_5 ++ wX1 g (AX 1) AD σD ++ wX3 g (AX 3) AP σP ++ wX2 (AX 4) σN ++ wX5 g (AX 5) AW (.ref qH) σW ++ wX4 g (AX 6) AY σY ++ wX0 g (AX 7) AK σK ℓK ++ wH g qH σH) := hD
    have hl : lv_has ls 30 [(17, .int v17_5), (16, .int v16_3), (0, .ref b), (1, .ref qX), (2, .int v2), (4, .int v4), (7, .int v7), (9, .int v9)] := hl
    exact gs_1462 hx hb hr hlocks F hK hN hA hZ hbA hX hbl hF hP hD hS (lv_sub hl [2, 3, 4, 5, 6, 7, 1] rfl)
  · rintro k again kk ag ⟨v17_5, σC_5⟩ hF H locs ls hP hD hS hl
    dsimp only [b_L_law_1419] at hF
    have hP : va_P g.1 vwCl (wX6 qX AX ++ wX1 g (AX 0) AC σC_5 ++ wX1 g (AX 1) AD σD ++ wX3 g (AX 3) AP σP ++ wX2 (AX 4) σN ++ wX5 g (AX 5) AW (.ref qH) σW ++ wX4 g (AX 6) AY σY ++ wX0 g (AX 7) AK σK ℓK ++ wH g qH σH) H := hP
    have hD : va_D Z (wX6 qX AX ++ wX1 g (AX 0) AC σC_5 ++ wX1 g (AX 1) AD σD ++ wX3 g (AX 3) AP σP ++ wX2 (AX 4) σN ++ wX5 g (AX 5) AW (.ref qH) σW ++ wX4 g (AX 6) AY σY ++ wX0 g (AX 7) AK σK ℓK ++ wH g qH σH) := hD
    have hl : lv_has ls 30 [(17, .int v17_5), (16, .int v16_3), (0, .ref b), (1, .ref qX), (2, .int v2), (4, .int v4), (7, .int v7), (9, .int v9)] := hl
    refine lv_iload hx hb dL_law_1419 (lv_at hl 0 rfl) ?_
    refine lv_bipush (v := 10) hx hb dL_law_1421 (by decide) ?_
    refine lv_icmp_ge (tgt := 1462) hx hb dL_law_1423 (by decide) (fun c_6 => ?_) (fun c_6 => ?_)
    · have hF := q_if_t c_6 hF
      exact kk (v17_5, σC_5) hF _ _ _ hP hD hS (lv_sub hl [0, 1, 2, 3, 4, 5, 6, 7] rfl)
    · have hF := q_if_f c_6 hF
      refine lv_aload_n hx hb dL_law_1426 rfl (lv_at hl 3 rfl) ?_
      refine lv_iload hx hb dL_law_1427 (lv_at hl 0 rfl) ?_
      refine lv_iload hx hb dL_law_1429 (lv_at hl 0 rfl) ?_
      refine lv_iload hx hb dL_law_1431 (lv_at hl 1 rfl) ?_
      refine lv_iconst (v := 1) hx hb dL_law_1433 (by decide) ?_
      refine lv_isub hx hb dL_law_1434 ?_
      refine lv_icmp_ge (tgt := 1445) hx hb dL_law_1435 (by decide) (fun c_7 => ?_) (fun c_7 => ?_)
      · have hF := q_if_t c_7 hF
        refine lv_iconst (v := 0) hx hb dL_law_1445 (by decide) ?_
        obtain ⟨⟨r_8, σC_9⟩, h_10, hF⟩ := q_cl_s hF
        try dsimp only at hF
        have hP : va_P g.1 vwCl ([(qX, .inr (6, oX6 AX)), ((AX 0), .inr (1, oC AC (σC_5 99))), aI g (AC 0) 121 (σC_5 0), aI g (AC 1) 10 (σC_5 1), aI g (AC 2) 10 (σC_5 2), aI g (AC 3) 10 (σC_5 3), aI g (AC 4) 10 (σC_5 4), aI g (AC 5) 8 (σC_5 5), aI g (AC 6) 8 (σC_5 6), ((AX 1), .inr (1, oC AD (σD 99))), aI g (AD 0) 121 (σD 0), aI g (AD 1) 10 (σD 1), aI g (AD 2) 10 (σD 2), aI g (AD 3) 10 (σD 3), aI g (AD 4) 10 (σD 4), aI g (AD 5) 8 (σD 5), aI g (AD 6) 8 (σD 6), ((AX 3), .inr (3, oX3 AP (σP 99))), aI g (AP 0) 60 (σP 0), ((AX 4), .inr (2, oX2 (σN 99))), ((AX 5), .inr (5, oX5 AW (.ref qH))), aI g (AW 0) 121 (σW 0), aI g (AW 1) 11 (σW 1), ((AX 6), .inr (4, oX4 AY (σY 99))), aI g (AY 0) 410 (σY 0), aI g (AY 1) 50 (σY 1), aI g (AY 2) 10 (σY 2), ((AX 7), .inr (0, oX0 AK)), aJ g (AK 0) 11 (ℓK 0), aJ g (AK 1) 11 (ℓK 1), aI g (AK 2) 61 (σK 2), aI g qH 10240 (σH 0)]) H := hP
        have hD : va_D Z ([(qX, .inr (6, oX6 AX)), ((AX 0), .inr (1, oC AC (σC_5 99))), aI g (AC 0) 121 (σC_5 0), aI g (AC 1) 10 (σC_5 1), aI g (AC 2) 10 (σC_5 2), aI g (AC 3) 10 (σC_5 3), aI g (AC 4) 10 (σC_5 4), aI g (AC 5) 8 (σC_5 5), aI g (AC 6) 8 (σC_5 6), ((AX 1), .inr (1, oC AD (σD 99))), aI g (AD 0) 121 (σD 0), aI g (AD 1) 10 (σD 1), aI g (AD 2) 10 (σD 2), aI g (AD 3) 10 (σD 3), aI g (AD 4) 10 (σD 4), aI g (AD 5) 8 (σD 5), aI g (AD 6) 8 (σD 6), ((AX 3), .inr (3, oX3 AP (σP 99))), aI g (AP 0) 60 (σP 0), ((AX 4), .inr (2, oX2 (σN 99))), ((AX 5), .inr (5, oX5 AW (.ref qH))), aI g (AW 0) 121 (σW 0), aI g (AW 1) 11 (σW 1), ((AX 6), .inr (4, oX4 AY (σY 99))), aI g (AY 0) 410 (σY 0), aI g (AY 1) 50 (σY 1), aI g (AY 2) 10 (σY 2), ((AX 7), .inr (0, oX0 AK)), aJ g (AK 0) 11 (ℓK 0), aJ g (AK 1) 11 (ℓK 1), aI g (AK 2) 61 (σK 2), aI g qH 10240 (σH 0)]) := hD
        refine gcV_i (As := [.int v17_5, .int 0]) (rest := []) (ci := 6) (q := (RX6, TX6, 8)) F hK hN hP hD hS hA (m_X6_fade l g H.size qX AX AC σC_5 v17_5 (0 : Int32) r_8 σC_9 h_10) gL_law_X6_fade kX6_fade rfl rfl rfl rfl ⟨(Nat.le_of_ble_eq_true rfl), (Nat.le_of_ble_eq_true rfl)⟩ [0, 1, 2, 3, 4, 5, 6, 7, 8] [9, 10, 11, 12, 13, 14, 15, 16, 17, 18, 19, 20, 21, 22, 23, 24, 25, 26, 27, 28, 29, 30, 31] rfl rfl rfl (by decide) rfl rfl rfl rfl rfl hl.1 (Nat.le_of_ble_eq_true rfl) dL_law_1446 ⟨(Nat.le_of_ble_eq_true rfl), (Nat.le_of_ble_eq_true rfl)⟩ (fun r_w u_w H locs hw hP hD hS => ?_)
        have hP : va_P g.1 vwCl ([((AX 1), .inr (1, oC AD (σD 99))), aI g (AD 0) 121 (σD 0), aI g (AD 1) 10 (σD 1), aI g (AD 2) 10 (σD 2), aI g (AD 3) 10 (σD 3), aI g (AD 4) 10 (σD 4), aI g (AD 5) 8 (σD 5), aI g (AD 6) 8 (σD 6), ((AX 3), .inr (3, oX3 AP (σP 99))), aI g (AP 0) 60 (σP 0), ((AX 4), .inr (2, oX2 (σN 99))), ((AX 5), .inr (5, oX5 AW (.ref qH))), aI g (AW 0) 121 (σW 0), aI g (AW 1) 11 (σW 1), ((AX 6), .inr (4, oX4 AY (σY 99))), aI g (AY 0) 410 (σY 0), aI g (AY 1) 50 (σY 1), aI g (AY 2) 10 (σY 2), ((AX 7), .inr (0, oX0 AK)), aJ g (AK 0) 11 (ℓK 0), aJ g (AK 1) 11 (ℓK 1), aI g (AK 2) 61 (σK 2), aI g qH 10240 (σH 0), (qX, .inr (6, oX6 AX)), ((AX 0), .inr (1, oC AC (σC_9 99))), aI g (AC 0) 121 (σC_9 0), aI g (AC 1) 10 (σC_9 1), aI g (AC 2) 10 (σC_9 2), aI g (AC 3) 10 (σC_9 3), aI g (AC 4) 10 (σC_9 4), aI g (AC 5) 8 (σC_9 5), aI g (AC 6) 8 (σC_9 6)]) H := hP
        have hD : va_D Z ([((AX 1), .inr (1, oC AD (σD 99))), aI g (AD 0) 121 (σD 0), aI g (AD 1) 10 (σD 1), aI g (AD 2) 10 (σD 2), aI g (AD 3) 10 (σD 3), aI g (AD 4) 10 (σD 4), aI g (AD 5) 8 (σD 5), aI g (AD 6) 8 (σD 6), ((AX 3), .inr (3, oX3 AP (σP 99))), aI g (AP 0) 60 (σP 0), ((AX 4), .inr (2, oX2 (σN 99))), ((AX 5), .inr (5, oX5 AW (.ref qH))), aI g (AW 0) 121 (σW 0), aI g (AW 1) 11 (σW 1), ((AX 6), .inr (4, oX4 AY (σY 99))), aI g (AY 0) 410 (σY 0), aI g (AY 1) 50 (σY 1), aI g (AY 2) 10 (σY 2), ((AX 7), .inr (0, oX0 AK)), aJ g (AK 0) 11 (ℓK 0), aJ g (AK 1) 11 (ℓK 1), aI g (AK 2) 61 (σK 2), aI g qH 10240 (σH 0), (qX, .inr (6, oX6 AX)), ((AX 0), .inr (1, oC AC (σC_9 99))), aI g (AC 0) 121 (σC_9 0), aI g (AC 1) 10 (σC_9 1), aI g (AC 2) 10 (σC_9 2), aI g (AC 3) 10 (σC_9 3), aI g (AC 4) 10 (σC_9 4), aI g (AC 5) 8 (σC_9 5), aI g (AC 6) 8 (σC_9 6)]) := hD
        have hP : va_P g.1 vwCl (wX6 qX AX ++ wX1 g (AX 0) AC σC_9 ++ wX1 g (AX 1) AD σD ++ wX3 g (AX 3) AP σP ++ wX2 (AX 4) σN ++ wX5 g (AX 5) AW (.ref qH) σW ++ wX4 g (AX 6) AY σY ++ wX0 g (AX 7) AK σK ℓK ++ wH g qH σH) H := hP.sub [23, 24, 25, 26, 27, 28, 29, 30, 31, 0, 1, 2, 3, 4, 5, 6, 7, 8, 9, 10, 11, 12, 13, 14, 15, 16, 17, 18, 19, 20, 21, 22] rfl
        have hD : va_D Z (wX6 qX AX ++ wX1 g (AX 0) AC σC_9 ++ wX1 g (AX 1) AD σD ++ wX3 g (AX 3) AP σP ++ wX2 (AX 4) σN ++ wX5 g (AX 5) AW (.ref qH) σW ++ wX4 g (AX 6) AY σY ++ wX0 g (AX 7) AK σK ℓK ++ wH g qH σH) := hD.sub [23, 24, 25, 26, 27, 28, 29, 30, 31, 0, 1, 2, 3, 4, 5, 6, 7, 8, 9, 10, 11, 12, 13, 14, 15, 16, 17, 18, 19, 20, 21, 22] (by decide) rfl
        obtain rfl : r_8 = r_w := hw.symm
        refine lv_iload hx hb dL_law_1449 (lv_at hl 0 rfl) ?_
        refine lv_icmp_eq (tgt := 1456) hx hb dL_law_1451 (by decide) (fun c_12 => ?_) (fun c_12 => ?_)
        · have hF := q_if_t c_12 hF
          refine lv_iinc (v := v17_5 + 1) (lv' := [(17, .int (v17_5 + 1)), (16, .int v16_3), (0, .ref b), (1, .ref qX), (2, .int v2), (4, .int v4), (7, .int v7), (9, .int v9)]) hx hb dL_law_1456 hl (k := 0) rfl rfl (by decide) rfl (fun ls hl => ?_)
          refine lv_goto (tgt := 1419) hx hb dL_law_1459 (by decide) ?_
          exact ag (v17_5 + 1, σC_9) hF _ _ _ hP hD hS (lv_sub hl [0, 1, 2, 3, 4, 5, 6, 7] rfl)
        · have hF := q_if_f c_12 hF
          refine lv_iconst (v := 0) hx hb dL_law_1454 (by decide) ?_
          exact absurd hF (by decide)
      · have hF := q_if_f c_7 hF
        refine lv_iload hx hb dL_law_1438 (lv_at hl 0 rfl) ?_
        refine lv_iconst (v := 1) hx hb dL_law_1440 (by decide) ?_
        refine lv_iadd hx hb dL_law_1441 ?_
        refine lv_goto (tgt := 1446) hx hb dL_law_1442 (by decide) ?_
        obtain ⟨⟨r_13, σC_14⟩, h_15, hF⟩ := q_cl_s hF
        try dsimp only at hF
        have hP : va_P g.1 vwCl ([(qX, .inr (6, oX6 AX)), ((AX 0), .inr (1, oC AC (σC_5 99))), aI g (AC 0) 121 (σC_5 0), aI g (AC 1) 10 (σC_5 1), aI g (AC 2) 10 (σC_5 2), aI g (AC 3) 10 (σC_5 3), aI g (AC 4) 10 (σC_5 4), aI g (AC 5) 8 (σC_5 5), aI g (AC 6) 8 (σC_5 6), ((AX 1), .inr (1, oC AD (σD 99))), aI g (AD 0) 121 (σD 0), aI g (AD 1) 10 (σD 1), aI g (AD 2) 10 (σD 2), aI g (AD 3) 10 (σD 3), aI g (AD 4) 10 (σD 4), aI g (AD 5) 8 (σD 5), aI g (AD 6) 8 (σD 6), ((AX 3), .inr (3, oX3 AP (σP 99))), aI g (AP 0) 60 (σP 0), ((AX 4), .inr (2, oX2 (σN 99))), ((AX 5), .inr (5, oX5 AW (.ref qH))), aI g (AW 0) 121 (σW 0), aI g (AW 1) 11 (σW 1), ((AX 6), .inr (4, oX4 AY (σY 99))), aI g (AY 0) 410 (σY 0), aI g (AY 1) 50 (σY 1), aI g (AY 2) 10 (σY 2), ((AX 7), .inr (0, oX0 AK)), aJ g (AK 0) 11 (ℓK 0), aJ g (AK 1) 11 (ℓK 1), aI g (AK 2) 61 (σK 2), aI g qH 10240 (σH 0)]) H := hP
        have hD : va_D Z ([(qX, .inr (6, oX6 AX)), ((AX 0), .inr (1, oC AC (σC_5 99))), aI g (AC 0) 121 (σC_5 0), aI g (AC 1) 10 (σC_5 1), aI g (AC 2) 10 (σC_5 2), aI g (AC 3) 10 (σC_5 3), aI g (AC 4) 10 (σC_5 4), aI g (AC 5) 8 (σC_5 5), aI g (AC 6) 8 (σC_5 6), ((AX 1), .inr (1, oC AD (σD 99))), aI g (AD 0) 121 (σD 0), aI g (AD 1) 10 (σD 1), aI g (AD 2) 10 (σD 2), aI g (AD 3) 10 (σD 3), aI g (AD 4) 10 (σD 4), aI g (AD 5) 8 (σD 5), aI g (AD 6) 8 (σD 6), ((AX 3), .inr (3, oX3 AP (σP 99))), aI g (AP 0) 60 (σP 0), ((AX 4), .inr (2, oX2 (σN 99))), ((AX 5), .inr (5, oX5 AW (.ref qH))), aI g (AW 0) 121 (σW 0), aI g (AW 1) 11 (σW 1), ((AX 6), .inr (4, oX4 AY (σY 99))), aI g (AY 0) 410 (σY 0), aI g (AY 1) 50 (σY 1), aI g (AY 2) 10 (σY 2), ((AX 7), .inr (0, oX0 AK)), aJ g (AK 0) 11 (ℓK 0), aJ g (AK 1) 11 (ℓK 1), aI g (AK 2) 61 (σK 2), aI g qH 10240 (σH 0)]) := hD
        refine gcV_i (As := [.int v17_5, .int (v17_5 + 1)]) (rest := []) (ci := 6) (q := (RX6, TX6, 8)) F hK hN hP hD hS hA (m_X6_fade l g H.size qX AX AC σC_5 v17_5 (v17_5 + 1) r_13 σC_14 h_15) gL_law_X6_fade kX6_fade rfl rfl rfl rfl ⟨(Nat.le_of_ble_eq_true rfl), (Nat.le_of_ble_eq_true rfl)⟩ [0, 1, 2, 3, 4, 5, 6, 7, 8] [9, 10, 11, 12, 13, 14, 15, 16, 17, 18, 19, 20, 21, 22, 23, 24, 25, 26, 27, 28, 29, 30, 31] rfl rfl rfl (by decide) rfl rfl rfl rfl rfl hl.1 (Nat.le_of_ble_eq_true rfl) dL_law_1446 ⟨(Nat.le_of_ble_eq_true rfl), (Nat.le_of_ble_eq_true rfl)⟩ (fun r_w u_w H locs hw hP hD hS => ?_)
        have hP : va_P g.1 vwCl ([((AX 1), .inr (1, oC AD (σD 99))), aI g (AD 0) 121 (σD 0), aI g (AD 1) 10 (σD 1), aI g (AD 2) 10 (σD 2), aI g (AD 3) 10 (σD 3), aI g (AD 4) 10 (σD 4), aI g (AD 5) 8 (σD 5), aI g (AD 6) 8 (σD 6), ((AX 3), .inr (3, oX3 AP (σP 99))), aI g (AP 0) 60 (σP 0), ((AX 4), .inr (2, oX2 (σN 99))), ((AX 5), .inr (5, oX5 AW (.ref qH))), aI g (AW 0) 121 (σW 0), aI g (AW 1) 11 (σW 1), ((AX 6), .inr (4, oX4 AY (σY 99))), aI g (AY 0) 410 (σY 0), aI g (AY 1) 50 (σY 1), aI g (AY 2) 10 (σY 2), ((AX 7), .inr (0, oX0 AK)), aJ g (AK 0) 11 (ℓK 0), aJ g (AK 1) 11 (ℓK 1), aI g (AK 2) 61 (σK 2), aI g qH 10240 (σH 0), (qX, .inr (6, oX6 AX)), ((AX 0), .inr (1, oC AC (σC_14 99))), aI g (AC 0) 121 (σC_14 0), aI g (AC 1) 10 (σC_14 1), aI g (AC 2) 10 (σC_14 2), aI g (AC 3) 10 (σC_14 3), aI g (AC 4) 10 (σC_14 4), aI g (AC 5) 8 (σC_14 5), aI g (AC 6) 8 (σC_14 6)]) H := hP
        have hD : va_D Z ([((AX 1), .inr (1, oC AD (σD 99))), aI g (AD 0) 121 (σD 0), aI g (AD 1) 10 (σD 1), aI g (AD 2) 10 (σD 2), aI g (AD 3) 10 (σD 3), aI g (AD 4) 10 (σD 4), aI g (AD 5) 8 (σD 5), aI g (AD 6) 8 (σD 6), ((AX 3), .inr (3, oX3 AP (σP 99))), aI g (AP 0) 60 (σP 0), ((AX 4), .inr (2, oX2 (σN 99))), ((AX 5), .inr (5, oX5 AW (.ref qH))), aI g (AW 0) 121 (σW 0), aI g (AW 1) 11 (σW 1), ((AX 6), .inr (4, oX4 AY (σY 99))), aI g (AY 0) 410 (σY 0), aI g (AY 1) 50 (σY 1), aI g (AY 2) 10 (σY 2), ((AX 7), .inr (0, oX0 AK)), aJ g (AK 0) 11 (ℓK 0), aJ g (AK 1) 11 (ℓK 1), aI g (AK 2) 61 (σK 2), aI g qH 10240 (σH 0), (qX, .inr (6, oX6 AX)), ((AX 0), .inr (1, oC AC (σC_14 99))), aI g (AC 0) 121 (σC_14 0), aI g (AC 1) 10 (σC_14 1), aI g (AC 2) 10 (σC_14 2), aI g (AC 3) 10 (σC_14 3), aI g (AC 4) 10 (σC_14 4), aI g (AC 5) 8 (σC_14 5), aI g (AC 6) 8 (σC_14 6)]) := hD
        have hP : va_P g.1 vwCl (wX6 qX AX ++ wX1 g (AX 0) AC σC_14 ++ wX1 g (AX 1) AD σD ++ wX3 g (AX 3) AP σP ++ wX2 (AX 4) σN ++ wX5 g (AX 5) AW (.ref qH) σW ++ wX4 g (AX 6) AY σY ++ wX0 g (AX 7) AK σK ℓK ++ wH g qH σH) H := hP.sub [23, 24, 25, 26, 27, 28, 29, 30, 31, 0, 1, 2, 3, 4, 5, 6, 7, 8, 9, 10, 11, 12, 13, 14, 15, 16, 17, 18, 19, 20, 21, 22] rfl
        have hD : va_D Z (wX6 qX AX ++ wX1 g (AX 0) AC σC_14 ++ wX1 g (AX 1) AD σD ++ wX3 g (AX 3) AP σP ++ wX2 (AX 4) σN ++ wX5 g (AX 5) AW (.ref qH) σW ++ wX4 g (AX 6) AY σY ++ wX0 g (AX 7) AK σK ℓK ++ wH g qH σH) := hD.sub [23, 24, 25, 26, 27, 28, 29, 30, 31, 0, 1, 2, 3, 4, 5, 6, 7, 8, 9, 10, 11, 12, 13, 14, 15, 16, 17, 18, 19, 20, 21, 22] (by decide) rfl
        obtain rfl : r_13 = r_w := hw.symm
        refine lv_iload hx hb dL_law_1449 (lv_at hl 0 rfl) ?_
        refine lv_icmp_eq (tgt := 1456) hx hb dL_law_1451 (by decide) (fun c_17 => ?_) (fun c_17 => ?_)
        · have hF := q_if_t c_17 hF
          refine lv_iinc (v := v17_5 + 1) (lv' := [(17, .int (v17_5 + 1)), (16, .int v16_3), (0, .ref b), (1, .ref qX), (2, .int v2), (4, .int v4), (7, .int v7), (9, .int v9)]) hx hb dL_law_1456 hl (k := 0) rfl rfl (by decide) rfl (fun ls hl => ?_)
          refine lv_goto (tgt := 1419) hx hb dL_law_1459 (by decide) ?_
          exact ag (v17_5 + 1, σC_14) hF _ _ _ hP hD hS (lv_sub hl [0, 1, 2, 3, 4, 5, 6, 7] rfl)
        · have hF := q_if_f c_17 hF
          refine lv_iconst (v := 0) hx hb dL_law_1454 (by decide) ?_
          exact absurd hF (by decide)
