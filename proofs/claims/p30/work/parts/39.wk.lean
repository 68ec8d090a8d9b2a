set_option maxHeartbeats 8000000 in
set_option maxRecDepth 100000 in
theorem gs_1582 {p : Program} {l : Launch} {e : Env} {s : State} {m : MethodId} {below : List Frame} {meth : Method} {c : Code} {b : Nat} {g : GT} {Z : Nat → Prop} {H : Heap} {locs : List Loc} {ls : Array Slot} {qH qX : Nat} {AX AC AD AP AW AY AK : Nat → Nat} {L : Nat} {xs : Nat → Int32} {σC : qS} {σD : qS} {σP : qS} {σN : qS} {σW : qS} {σY : qS} {σK : qS} {ℓK : qL} {σH : qS} {v2 : Int32} {v4 : Int32} {v7 : Int32} {v9 : Int32} {v16 : Int32}
    (hx : p.tables.exec = Jvm.exec) (hb : c.code = cL_law) (hr : meth.sig.returnType = ret) (hlocks : meth.locks = false) (F : CallFix p m c cL_law 30 s #[Value.ref b] wsL_law RL) (hK : va_K g.1 vwCl (tyL g) s) (hN : NW s) (hA : ∀ q : Nat, s.heap.size ≤ q → Z q) (hZ : Z = fun q => s.heap.size ≤ q) (hbA : ¬ Z b) (hX : va_X b L xs s s.heap) (hbl : b < s.heap.size) (hF : g_1582 L xs σC σD σP σN σW σY σK ℓK σH v2 v4 v7 v9 v16 = some 1)
    (hP : va_P g.1 vwCl (wX6 qX AX ++ wX1 g (AX 0) AC σC ++ wX1 g (AX 1) AD σD ++ wX3 g (AX 3) AP σP ++ wX2 (AX 4) σN ++ wX5 g (AX 5) AW (.ref qH) σW ++ wX4 g (AX 6) AY σY ++ wX0 g (AX 7) AK σK ℓK ++ wH g qH σH) H) (hD : va_D Z (wX6 qX AX ++ wX1 g (AX 0) AC σC ++ wX1 g (AX 1) AD σD ++ wX3 g (AX 3) AP σP ++ wX2 (AX 4) σN ++ wX5 g (AX 5) AW (.ref qH) σW ++ wX4 g (AX 6) AY σY ++ wX0 g (AX 7) AK σK ℓK ++ wH g qH σH)) (hS : va_S Z s.heap H locs) (hl : lv_has ls 30 [(0, .ref b), (1, .ref qX), (2, .int v2), (4, .int v4), (7, .int v7), (9, .int v9), (16, .int v16)]) : W p l e room_1 s m #[Value.ref b] below meth c H locs 200 40000 (lw_Z below #[Value.ref b] s) (F0 m 1582 ls []) := by
  have hts := F.2.2.2.2
  have hown : s.vm.findClass RL = some m.cls := F.2.2.2.1
  dsimp only [g_1582] at hF
  refine lv_aload_n hx hb dL_law_1582 rfl (lv_at hl 1 rfl) ?_
  refine lv_bipush (v := 61) hx hb dL_law_1583 (by decide) ?_
  obtain ⟨⟨r_1, σP_2⟩, h_3, hF⟩ := q_cl_s hF
  try dsimp only at hF
  refine gcV_i (As := [.int 61]) (rest := []) (ci := 6) (q := (RX6, TX6, 8)) F hK hN hP hD hS hA (m_X6_say l g H.size qX AX AP σP (61 : Int32) r_1 σP_2 h_3) gL_law_X6_say kX6_say rfl rfl rfl rfl ⟨(Nat.le_of_ble_eq_true rfl), (Nat.le_of_ble_eq_true rfl)⟩ [0, 17, 18] [1, 2, 3, 4, 5, 6, 7, 8, 9, 10, 11, 12, 13, 14, 15, 16, 19, 20, 21, 22, 23, 24, 25, 26, 27, 28, 29, 30, 31] rfl rfl rfl (by decide) rfl rfl rfl rfl rfl hl.1 (Nat.le_of_ble_eq_true rfl) dL_law_1585 ⟨(Nat.le_of_ble_eq_true rfl), (Nat.le_of_ble_eq_true rfl)⟩ (fun r_w u_w H locs hw hP hD hS => ?_)
  have hP : va_P g.1 vwCl ([((AX 0), .inr (1, oC AC (σC 99))), aI g (AC 0) 121 (σC 0), aI g (AC 1) 10 (σC 1), aI g (AC 2) 10 (σC 2), aI g (AC 3) 10 (σC 3), aI g (AC 4) 10 (σC 4), aI g (AC 5) 8 (σC 5), aI g (AC 6) 8 (σC 6), ((AX 1), .inr (1, oC AD (σD 99))), aI g (AD 0) 121 (σD 0), aI g (AD 1) 10 (σD 1), aI g (AD 2) 10 (σD 2), aI g (AD 3) 10 (σD 3), aI g (AD 4) 10 (σD 4), aI g (AD 5) 8 (σD 5), aI g (AD 6) 8 (σD 6), ((AX 4), .inr (2, oX2 (σN 99))), ((AX 5), .inr (5, oX5 AW (.ref qH))), aI g (AW 0) 121 (σW 0), aI g (AW 1) 11 (σW 1), ((AX 6), .inr (4, oX4 AY (σY 99))), aI g (AY 0) 410 (σY 0), aI g (AY 1) 50 (σY 1), aI g (AY 2) 10 (σY 2), ((AX 7), .inr (0, oX0 AK)), aJ g (AK 0) 11 (ℓK 0), aJ g (AK 1) 11 (ℓK 1), aI g (AK 2) 61 (σK 2), aI g qH 10240 (σH 0), (qX, .inr (6, oX6 AX)), ((AX 3), .inr (3, oX3 AP (σP_2 99))), aI g (AP 0) 60 (σP_2 0)]) H := hP
  have hD : va_D Z ([((AX 0), .inr (1, oC AC (σC 99))), aI g (AC 0) 121 (σC 0), aI g (AC 1) 10 (σC 1), aI g (AC 2) 10 (σC 2), aI g (AC 3) 10 (σC 3), aI g (AC 4) 10 (σC 4), aI g (AC 5) 8 (σC 5), aI g (AC 6) 8 (σC 6), ((AX 1), .inr (1, oC AD (σD 99))), aI g (AD 0) 121 (σD 0), aI g (AD 1) 10 (σD 1), aI g (AD 2) 10 (σD 2), aI g (AD 3) 10 (σD 3), aI g (AD 4) 10 (σD 4), aI g (AD 5) 8 (σD 5), aI g (AD 6) 8 (σD 6), ((AX 4), .inr (2, oX2 (σN 99))), ((AX 5), .inr (5, oX5 AW (.ref qH))), aI g (AW 0) 121 (σW 0), aI g (AW 1) 11 (σW 1), ((AX 6), .inr (4, oX4 AY (σY 99))), aI g (AY 0) 410 (σY 0), aI g (AY 1) 50 (σY 1), aI g (AY 2) 10 (σY 2), ((AX 7), .inr (0, oX0 AK)), aJ g (AK 0) 11 (ℓK 0), aJ g (AK 1) 11 (ℓK 1), aI g (AK 2) 61 (σK 2), aI g qH 10240 (σH 0), (qX, .inr (6, oX6 AX)), ((AX 3), .inr (3, oX3 AP (σP_2 99))), aI g (AP 0) 60 (σP_2 0)]) := hD
  have hP : va_P g.1 vwCl (wX6 qX AX ++ wX1 g (AX 0) AC σC ++ wX1 g (AX 1) AD σD ++ wX3 g (AX 3) AP σP_2 ++ wX2 (AX 4) σN ++ wX5 g (AX 5) AW (.ref qH) σW ++ wX4 g (AX 6) AY σY ++ wX0 g (AX 7) AK σK ℓK ++ wH g qH σH) H := hP.sub [29, 0, 1, 2, 3, 4, 5, 6, 7, 8, 9, 10, 11, 12, 13, 14, 15, 30, 31, 16, 17, 18, 19, 20, 21, 22, 23, 24, 25, 26, 27, 28] rfl
  have hD : va_D Z (wX6 qX AX ++ wX1 g (AX 0) AC σC ++ wX1 g (AX 1) AD σD ++ wX3 g (AX 3) AP σP_2 ++ wX2 (AX 4) σN ++ wX5 g (AX 5) AW (.ref qH) σW ++ wX4 g (AX 6) AY σY ++ wX0 g (AX 7) AK σK ℓK ++ wH g qH σH) := hD.sub [29, 0, 1, 2, 3, 4, 5, 6, 7, 8, 9, 10, 11, 12, 13, 14, 15, 30, 31, 16, 17, 18, 19, 20, 21, 22, 23, 24, 25, 26, 27, 28] (by decide) rfl
  obtain rfl : r_1 = r_w := hw.symm
  refine lv_iconst (v := 1) hx hb dL_law_1588 (by decide) ?_
  refine lv_icmp_ne (tgt := 1612) hx hb dL_law_1589 (by decide) (fun c_5 => ?_) (fun c_5 => ?_)
  · have hF := q_if_f c_5 hF
    refine lv_iconst (v := 0) hx hb dL_law_1612 (by decide) ?_
    exact absurd hF (by decide)
  · have hF := q_if_t (by first | exact c_5 | exact Classical.not_not.mp c_5) hF
    refine lv_aload_n hx hb dL_law_1592 rfl (lv_at hl 1 rfl) ?_
    refine lv_bipush (v := 48) hx hb dL_law_1593 (by decide) ?_
    obtain ⟨⟨r_6, σP_7⟩, h_8, hF⟩ := q_cl_s hF
    try dsimp only at hF
    refine gcV_i (As := [.int 48]) (rest := []) (ci := 6) (q := (RX6, TX6, 8)) F hK hN hP hD hS hA (m_X6_say l g H.size qX AX AP σP_2 (48 : Int32) r_6 σP_7 h_8) gL_law_X6_say kX6_say rfl rfl rfl rfl ⟨(Nat.le_of_ble_eq_true rfl), (Nat.le_of_ble_eq_true rfl)⟩ [0, 17, 18] [1, 2, 3, 4, 5, 6, 7, 8, 9, 10, 11, 12, 13, 14, 15, 16, 19, 20, 21, 22, 23, 24, 25, 26, 27, 28, 29, 30, 31] rfl rfl rfl (by decide) rfl rfl rfl rfl rfl hl.1 (Nat.le_of_ble_eq_true rfl) dL_law_1595 ⟨(Nat.le_of_ble_eq_true rfl), (Nat.le_of_ble_eq_true rfl)⟩ (fun r_w u_w H locs hw hP hD hS => ?_)
    have hP : va_P g.1 vwCl ([((AX 0), .inr (1, oC AC (σC 99))), aI g (AC 0) 121 (σC 0), aI g (AC 1) 10 (σC 1), aI g (AC 2) 10 (σC 2), aI g (AC 3) 10 (σC 3), aI g (AC 4) 10 (σC 4), aI g (AC 5) 8 (σC 5), aI g (AC 6) 8 (σC 6), ((AX 1), .inr (1, oC AD (σD 99))), aI g (AD 0) 121 (σD 0), aI g (AD 1) 10 (σD 1), aI g (AD 2) 10 (σD 2), aI g (AD 3) 10 (σD 3), aI g (AD 4) 10 (σD 4), aI g (AD 5) 8 (σD 5), aI g (AD 6) 8 (σD 6), ((AX 4), .inr (2, oX2 (σN 99))), ((AX 5), .inr (5, oX5 AW (.ref qH))), aI g (AW 0) 121 (σW 0), aI g (AW 1) 11 (σW 1), ((AX 6), .inr (4, oX4 AY (σY 99))), aI g (AY 0) 410 (σY 0), aI g (AY 1) 50 (σY 1), aI g (AY 2) 10 (σY 2), ((AX 7), .inr (0, oX0 AK)), aJ g (AK 0) 11 (ℓK 0), aJ g (AK 1) 11 (ℓK 1), aI g (AK 2) 61 (σK 2), aI g qH 10240 (σH 0), (qX, .inr (6, oX6 AX)), ((AX 3), .inr (3, oX3 AP (σP_7 99))), aI g (AP 0) 60 (σP_7 0)]) H := hP
    have hD : va_D Z ([((AX 0), .inr (1, oC AC (σC 99))), aI g (AC 0) 121 (σC 0), aI g (AC 1) 10 (σC 1), aI g (AC 2) 10 (σC 2), aI g (AC 3) 10 (σC 3), aI g (AC 4) 10 (σC 4), aI g (AC 5) 8 (σC 5), aI g (AC 6) 8 (σC 6), ((AX 1), .inr (1, oC AD (σD 99))), aI g (AD 0) 121 (σD 0), aI g (AD 1) 10 (σD 1), aI g (AD 2) 10 (σD 2), aI g (AD 3) 10 (σD 3), aI g (AD 4) 10 (σD 4), aI g (AD 5) 8 (σD 5), aI g (AD 6) 8 (σD 6), ((AX 4), .inr (2, oX2 (σN 99))), ((AX 5), .inr (5, oX5 AW (.ref qH))), aI g (AW 0) 121 (σW 0), aI g (AW 1) 11 (σW 1), ((AX 6), .inr (4, oX4 AY (σY 99))), aI g (AY 0) 410 (σY 0), aI g (AY 1) 50 (σY 1), aI g (AY 2) 10 (σY 2), ((AX 7), .inr (0, oX0 AK)), aJ g (AK 0) 11 (ℓK 0), aJ g (AK 1) 11 (ℓK 1), aI g (AK 2) 61 (σK 2), aI g qH 10240 (σH 0), (qX, .inr (6, oX6 AX)), ((AX 3), .inr (3, oX3 AP (σP_7 99))), aI g (AP 0) 60 (σP_7 0)]) := hD
    have hP : va_P g.1 vwCl (wX6 qX AX ++ wX1 g (AX 0) AC σC ++ wX1 g (AX 1) AD σD ++ wX3 g (AX 3) AP σP_7 ++ wX2 (AX 4) σN ++ wX5 g (AX 5) AW (.ref qH) σW ++ wX4 g (AX 6) AY σY ++ wX0 g (AX 7) AK σK ℓK ++ wH g qH σH) H := hP.sub [29, 0, 1, 2, 3, 4, 5, 6, 7, 8, 9, 10, 11, 12, 13, 14, 15, 30, 31, 16, 17, 18, 19, 20, 21, 22, 23, 24, 25, 26, 27, 28] rfl
    have hD : va_D Z (wX6 qX AX ++ wX1 g (AX 0) AC σC ++ wX1 g (AX 1) AD σD ++ wX3 g (AX 3) AP σP_7 ++ wX2 (AX 4) σN ++ wX5 g (AX 5) AW (.ref qH) σW ++ wX4 g (AX 6) AY σY ++ wX0 g (AX 7) AK σK ℓK ++ wH g qH σH) := hD.sub [29, 0, 1, 2, 3, 4, 5, 6, 7, 8, 9, 10, 11, 12, 13, 14, 15, 30, 31, 16, 17, 18, 19, 20, 21, 22, 23, 24, 25, 26, 27, 28] (by decide) rfl
    obtain rfl : r_6 = r_w := hw.symm
    refine lv_iconst (v := 2) hx hb dL_law_1598 (by decide) ?_
    refine lv_icmp_ne (tgt := 1612) hx hb dL_law_1599 (by decide) (fun c_10 => ?_) (fun c_10 => ?_)
    · have hF := q_if_f c_10 hF
      refine lv_iconst (v := 0) hx hb dL_law_1612 (by decide) ?_
      exact absurd hF (by decide)
    · have hF := q_if_t (by first | exact c_10 | exact Classical.not_not.mp c_10) hF
      refine lv_aload_n hx hb dL_law_1602 rfl (lv_at hl 1 rfl) ?_
      refine lv_bipush (v := 49) hx hb dL_law_1603 (by decide) ?_
      obtain ⟨⟨r_11, σP_12⟩, h_13, hF⟩ := q_cl_s hF
      try dsimp only at hF
      refine gcV_i (As := [.int 49]) (rest := []) (ci := 6) (q := (RX6, TX6, 8)) F hK hN hP hD hS hA (m_X6_say l g H.size qX AX AP σP_7 (49 : Int32) r_11 σP_12 h_13) gL_law_X6_say kX6_say rfl rfl rfl rfl ⟨(Nat.le_of_ble_eq_true rfl), (Nat.le_of_ble_eq_true rfl)⟩ [0, 17, 18] [1, 2, 3, 4, 5, 6, 7, 8, 9, 10, 11, 12, 13, 14, 15, 16, 19, 20, 21, 22, 23, 24, 25, 26, 27, 28, 29, 30, 31] rfl rfl rfl (by decide) rfl rfl rfl rfl rfl hl.1 (Nat.le_of_ble_eq_true rfl) dL_law_1605 ⟨(Nat.le_of_ble_eq_true rfl), (Nat.le_of_ble_eq_true rfl)⟩ (fun r_w u_w H locs hw hP hD hS => ?_)
      have hP : va_P g.1 vwCl ([((AX 0), .inr (1, oC AC (σC 99))), aI g (AC 0) 121 (σC 0), aI g (AC 1) 10 (σC 1), aI g (AC 2) 10 (σC 2), aI g (AC 3) 10 (σC 3), aI g (AC 4) 10 (σC 4), aI g (AC 5) 8 (σC 5), aI g (AC 6) 8 (σC 6), ((AX 1), .inr (1, oC AD (σD 99))), aI g (AD 0) 121 (σD 0), aI g (AD 1) 10 (σD 1), aI g (AD 2) 10 (σD 2), aI g (AD 3) 10 (σD 3), aI g (AD 4) 10 (σD 4), aI g (AD 5) 8 (σD 5), aI g (AD 6) 8 (σD 6), ((AX 4), .inr (2, oX2 (σN 99))), ((AX 5), .inr (5, oX5 AW (.ref qH))), aI g (AW 0) 121 (σW 0), aI g (AW 1) 11 (σW 1), ((AX 6), .inr (4, oX4 AY (σY 99))), aI g (AY 0) 410 (σY 0), aI g (AY 1) 50 (σY 1), aI g (AY 2) 10 (σY 2), ((AX 7), .inr (0, oX0 AK)), aJ g (AK 0) 11 (ℓK 0), aJ g (AK 1) 11 (ℓK 1), aI g (AK 2) 61 (σK 2), aI g qH 10240 (σH 0), (qX, .inr (6, oX6 AX)), ((AX 3), .inr (3, oX3 AP (σP_12 99))), aI g (AP 0) 60 (σP_12 0)]) H := hP
      have hD : va_D Z ([((AX 0), .inr (1, oC AC (σC 99))), aI g (AC 0) 121 (σC 0), aI g (AC 1) 10 (σC 1), aI g (AC 2) 10 (σC 2), aI g (AC 3) 10 (σC 3), aI g (AC 4) 10 (σC 4), aI g (AC 5) 8 (σC 5), aI g (AC 6) 8 (σC 6), ((AX 1), .inr (1, oC AD (σD 99))), aI g (AD 0) 121 (σD 0), aI g (AD 1) 10 (σD 1), aI g (AD 2) 10 (σD 2), aI g (AD 3) 10 (σD 3), aI g (AD 4) 10 (σD 4), aI g (AD 5) 8 (σD 5), aI g (AD 6) 8 (σD 6), ((AX 4), .inr (2, oX2 (σN 99))), ((AX 5), .inr (5, oX5 AW (.ref qH))), aI g (AW 0) 121 (σW 0), aI g (AW 1) 11 (σW 1), ((AX 6), .inr (4, oX4 AY (σY 99))), aI g (AY 0) 410 (σY 0), aI g (AY 1) 50 (σY 1), aI g (AY 2) 10 (σY 2), ((AX 7), .inr (0, oX0 AK)), aJ g (AK 0) 11 (ℓK 0), aJ g (AK 1) 11 (ℓK 1), aI g (AK 2) 61 (σK 2), aI g qH 10240 (σH 0), (qX, .inr (6, oX6 AX)), ((AX 3), .inr (3, oX3 AP (σP_12 99))), aI g (AP 0) 60 (σP_12 0)]) := hD
      have hP : va_P g.1 vwCl (wX6 qX AX ++ wX1 g (AX 0) AC σC ++ wX1 g (AX 1) AD σD ++ wX3 g (AX 3) AP σP_12 ++ wX2 (AX 4) σN ++ wX5 g (AX 5) AW (.ref qH) σW ++ wX4 g (AX 6) AY σY ++ wX0 g (AX 7) AK σK ℓK ++ wH g qH σH) H := hP.sub [29, 0, 1, 2, 3, 4, 5, 6, 7, 8, 9, 10, 11, 12, 13, 14, 15, 30, 31, 16, 17, 18, 19, 20, 21, 22, 23, 24, 25, 26, 27, 28] rfl
      have hD : va_D Z (wX6 qX AX ++ wX1 g (AX 0) AC σC ++ wX1 g (AX 1) AD σD ++ wX3 g (AX 3) AP σP_12 ++ wX2 (AX 4) σN ++ wX5 g (AX 5) AW (.ref qH) σW ++ wX4 g (AX 6) AY σY ++ wX0 g (AX 7) AK σK ℓK ++ wH g qH σH) := hD.sub [29, 0, 1, 2, 3, 4, 5, 6, 7, 8, 9, 10, 11, 12, 13, 14, 15, 30, 31, 16, 17, 18, 19, 20, 21, 22, 23, 24, 25, 26, 27, 28] (by decide) rfl
      obtain rfl : r_11 = r_w := hw.symm
      refine lv_iconst (v := 3) hx hb dL_law_1608 (by decide) ?_
      refine lv_icmp_eq (tgt := 1614) hx hb dL_law_1609 (by decide) (fun c_15 => ?_) (fun c_15 => ?_)
      · have hF := q_if_t c_15 hF
        refine lv_iconst (v := 0) hx hb dL_law_1614 (by decide) ?_
        refine lv_istore (lv' := [(17, .int 0), (0, .ref b), (1, .ref qX), (2, .int v2), (4, .int v4), (7, .int v7), (9, .int v9), (16, .int v16)]) hx hb dL_law_1615 hl (by decide) rfl (fun ls hl => ?_)
        refine q_loop (fun u0 => wX6 qX AX ++ wX1 g (AX 0) AC σC ++ wX1 g (AX 1) AD u0.2.1 ++ wX3 g (AX 3) AP u0.2.2.1 ++ wX2 (AX 4) u0.2.2.2 ++ wX5 g (AX 5) AW (.ref qH) σW ++ wX4 g (AX 6) AY σY ++ wX0 g (AX 7) AK σK ℓK ++ wH g qH σH) (fun u0 => [(17, .int u0.1), (0, .ref b), (1, .ref qX), (2, .int v2), (4, .int v4), (7, .int v7), (9, .int v9), (16, .int v16)]) 1698 hF ?_ ?_ hP hD hS (lv_sub hl [0, 1, 2, 3, 4, 5, 6, 7] rfl)
        · rintro ⟨v17_16, σD_16, σP_16, σN_16⟩ hF H locs ls hP hD hS hl
          try dsimp only at hF
          have hP : va_P g.1 vwCl (wX6 qX AX ++ wX1 g (AX 0) AC σC ++ wX1 g (AX 1) AD σD_16 ++ wX3 g (AX 3) AP σP_16 ++ wX2 (AX 4) σN_16 ++ wX5 g (AX 5) AW (.ref qH) σW ++ wX4 g (AX 6) AY σY ++ wX0 g (AX 7) AK σK ℓK ++ wH g qH σH) H := hP
          have hD : va_D Z (wX6 qX AX ++ wX1 g (AX 0) AC σC ++ wX1 g (AX 1) AD σD_16 ++ wX3 g (AX 3) AP σP_16 ++ wX2 (AX 4) σN_16 ++ wX5 g (AX 5) AW (.ref qH) σW ++ wX4 g (AX 6) AY σY ++ wX0 g (AX 7) AK σK ℓK ++ wH g qH σH) := hD
          have hl : lv_has ls 30 [(17, .int v17_16), (0, .ref b), (1, .ref qX), (2, .int v2), (4, .int v4), (7, .int v7), (9, .int v9), (16, .int v16)] := hl
          exact gs_1698 hx hb hr hlocks F hK hN hA hZ hbA hX hbl hF hP hD hS (lv_sub hl [1, 2, 3, 4, 5, 6, 7] rfl)
        · rintro k again kk ag ⟨v17_16, σD_16, σP_16, σN_16⟩ hF H locs ls hP hD hS hl
          dsimp only [b_L_law_1617] at hF
          have hP : va_P g.1 vwCl (wX6 qX AX ++ wX1 g (AX 0) AC σC ++ wX1 g (AX 1) AD σD_16 ++ wX3 g (AX 3) AP σP_16 ++ wX2 (AX 4) σN_16 ++ wX5 g (AX 5) AW (.ref qH) σW ++ wX4 g (AX 6) AY σY ++ wX0 g (AX 7) AK σK ℓK ++ wH g qH σH) H := hP
          have hD : va_D Z (wX6 qX AX ++ wX1 g (AX 0) AC σC ++ wX1 g (AX 1) AD σD_16 ++ wX3 g (AX 3) AP σP_16 ++ wX2 (AX 4) σN_16 ++ wX5 g (AX 5) AW (.ref qH) σW ++ wX4 g (AX 6) AY σY ++ wX0 g (AX 7) AK σK ℓK ++ wH g qH σH) := hD
          have hl : lv_has ls 30 [(17, .int v17_16), (0, .ref b), (1, .ref qX), (2, .int v2), (4, .int v4), (7, .int v7), (9, .int v9), (16, .int v16)] := hl
          refine lv_iload hx hb dL_law_1617 (lv_at hl 0 rfl) ?_
          refine lv_bipush (v := 57) hx hb dL_law_1619 (by decide) ?_
          refine lv_icmp_ge (tgt := 1698) hx hb dL_law_1621 (by decide) (fun c_17 => ?_) (fun c_17 => ?_)
          · have hF := q_if_t c_17 hF
            exact kk (v17_16, σD_16, σP_16, σN_16) hF _ _ _ hP hD hS (lv_sub hl [0, 1, 2, 3, 4, 5, 6, 7] rfl)
          · have hF := q_if_f c_17 hF
            refine lv_bipush (v := 20) hx hb dL_law_1624 (by decide) ?_
            refine lv_bipush (v := 10) hx hb dL_law_1626 (by decide) ?_
            refine lv_iload hx hb dL_law_1628 (lv_at hl 0 rfl) ?_
            refine lv_imul hx hb dL_law_1630 ?_
            refine lv_iadd hx hb dL_law_1631 ?_
            refine lv_bipush (v := 99) hx hb dL_law_1632 (by decide) ?_
            refine lv_icmp_le (tgt := 1642) hx hb dL_law_1634 (by decide) (fun c_18 => ?_) (fun c_18 => ?_)
            · have hF := q_if_t c_18 hF
              refine lv_bipush (v := 20) hx hb dL_law_1642 (by decide) ?_
              refine lv_bipush (v := 10) hx hb dL_law_1644 (by decide) ?_
              refine lv_iload hx hb dL_law_1646 (lv_at hl 0 rfl) ?_
              refine lv_imul hx hb dL_law_1648 ?_
              refine lv_iadd hx hb dL_law_1649 ?_
              obtain ⟨v18_19, e_20, hF⟩ := q_bd_s hF
              refine gtop e_20 ?_
              refine lv_istore (lv' := [(18, .int v18_19), (17, .int v17_16), (0, .ref b), (1, .ref qX), (2, .int v2), (4, .int v4), (7, .int v7), (9, .int v9), (16, .int v16)]) hx hb dL_law_1650 hl (by decide) rfl (fun ls hl => ?_)
              refine lv_aload_n hx hb dL_law_1652 rfl (lv_at hl 3 rfl) ?_
              refine lv_bipush (v := 126) hx hb dL_law_1653 (by decide) ?_
              obtain ⟨⟨r_21, σP_22⟩, h_23, hF⟩ := q_cl_s hF
              try dsimp only at hF
              refine gcV_i (As := [.int 126]) (rest := []) (ci := 6) (q := (RX6, TX6, 8)) F hK hN hP hD hS hA (m_X6_say l g H.size qX AX AP σP_16 (126 : Int32) r_21 σP_22 h_23) gL_law_X6_say kX6_say rfl rfl rfl rfl ⟨(Nat.le_of_ble_eq_true rfl), (Nat.le_of_ble_eq_true rfl)⟩ [0, 17, 18] [1, 2, 3, 4, 5, 6, 7, 8, 9, 10, 11, 12, 13, 14, 15, 16, 19, 20, 21, 22, 23, 24, 25, 26, 27, 28, 29, 30, 31] rfl rfl rfl (by decide) rfl rfl rfl rfl rfl hl.1 (Nat.le_of_ble_eq_true rfl) dL_law_1655 ⟨(Nat.le_of_ble_eq_true rfl), (Nat.le_of_ble_eq_true rfl)⟩ (fun r_w u_w H locs hw hP hD hS => ?_)
              have hP : va_P g.1 vwCl ([((AX 0), .inr (1, oC AC (σC 99))), aI g (AC 0) 121 (σC 0), aI g (AC 1) 10 (σC 1), aI g (AC 2) 10 (σC 2), aI g (AC 3) 10 (σC 3), aI g (AC 4) 10 (σC 4), aI g (AC 5) 8 (σC 5), aI g (AC 6) 8 (σC 6), ((AX 1), .inr (1, oC AD (σD_16 99))), aI g (AD 0) 121 (σD_16 0), aI g (AD 1) 10 (σD_16 1), aI g (AD 2) 10 (σD_16 2), aI g (AD 3) 10 (σD_16 3), aI g (AD 4) 10 (σD_16 4), aI g (AD 5) 8 (σD_16 5), aI g (AD 6) 8 (σD_16 6), ((AX 4), .inr (2, oX2 (σN_16 99))), ((AX 5), .inr (5, oX5 AW (.ref qH))), aI g (AW 0) 121 (σW 0), aI g (AW 1) 11 (σW 1), ((AX 6), .inr (4, oX4 AY (σY 99))), aI g (AY 0) 410 (σY 0), aI g (AY 1) 50 (σY 1), aI g (AY 2) 10 (σY 2), ((AX 7), .inr (0, oX0 AK)), aJ g (AK 0) 11 (ℓK 0), aJ g (AK 1) 11 (ℓK 1), aI g (AK 2) 61 (σK 2), aI g qH 10240 (σH 0), (qX, .inr (6, oX6 AX)), ((AX 3), .inr (3, oX3 AP (σP_22 99))), aI g (AP 0) 60 (σP_22 0)]) H := hP
              have hD : va_D Z ([((AX 0), .inr (1, oC AC (σC 99))), aI g (AC 0) 121 (σC 0), aI g (AC 1) 10 (σC 1), aI g (AC 2) 10 (σC 2), aI g (AC 3) 10 (σC 3), aI g (AC 4) 10 (σC 4), aI g (AC 5) 8 (σC 5), aI g (AC 6) 8 (σC 6), ((AX 1), .inr (1, oC AD (σD_16 99))), aI g (AD 0) 121 (σD_16 0), aI g (AD 1) 10 (σD_16 1), aI g (AD 2) 10 (σD_16 2), aI g (AD 3) 10 (σD_16 3), aI g (AD 4) 10 (σD_16 4), aI g (AD 5) 8 (σD_16 5), aI g (AD 6) 8 (σD_16 6), ((AX 4), .inr (2, oX2 (σN_16 99))), ((AX 5), .inr (5, oX5 AW (.ref qH))), aI g (AW 0) 121 (σW 0), aI g (AW 1) 11 (σW 1), ((AX 6), .inr (4, oX4 AY (σY 99))), aI g (AY 0) 410 (σY 0), aI g (AY 1) 50 (σY 1), aI g (AY 2) 10 (σY 2), ((AX 7), .inr (0, oX0 AK)), aJ g (AK 0) 11 (ℓK 0), aJ g (AK 1) 11 (ℓK 1), aI g (AK 2) 61 (σK 2), aI g qH 10240 (σH 0), (qX, .inr (6, oX6 AX)), ((AX 3), .inr (3, oX3 AP (σP_22 99))), aI g (AP 0) 60 (σP_22 0)]) := hD
              have hP : va_P g.1 vwCl (wX6 qX AX ++ wX1 g (AX 0) AC σC ++ wX1 g (AX 1) AD σD_16 ++ wX3 g (AX 3) AP σP_22 ++ wX2 (AX 4) σN_16 ++ wX5 g (AX 5) AW (.ref qH) σW ++ wX4 g (AX 6) AY σY ++ wX0 g (AX 7) AK σK ℓK ++ wH g qH σH) H := hP.sub [29, 0, 1, 2, 3, 4, 5, 6, 7, 8, 9, 10, 11, 12, 13, 14, 15, 30, 31, 16, 17, 18, 19, 20, 21, 22, 23, 24, 25, 26, 27, 28] rfl
              have hD : va_D Z (wX6 qX AX ++ wX1 g (AX 0) AC σC ++ wX1 g (AX 1) AD σD_16 ++ wX3 g (AX 3) AP σP_22 ++ wX2 (AX 4) σN_16 ++ wX5 g (AX 5) AW (.ref qH) σW ++ wX4 g (AX 6) AY σY ++ wX0 g (AX 7) AK σK ℓK ++ wH g qH σH) := hD.sub [29, 0, 1, 2, 3, 4, 5, 6, 7, 8, 9, 10, 11, 12, 13, 14, 15, 30, 31, 16, 17, 18, 19, 20, 21, 22, 23, 24, 25, 26, 27, 28] (by decide) rfl
              obtain rfl : r_21 = r_w := hw.symm
              refine lv_iconst (v := 4) hx hb dL_law_1658 (by decide) ?_
              refine lv_iload hx hb dL_law_1659 (lv_at hl 1 rfl) ?_
              refine lv_iadd hx hb dL_law_1661 ?_
              refine lv_icmp_ne (tgt := 1690) hx hb dL_law_1662 (by decide) (fun c_25 => ?_) (fun c_25 => ?_)
              · have hF := q_if_f c_25 hF
                refine lv_iconst (v := 0) hx hb dL_law_1690 (by decide) ?_
                exact absurd hF (by decide)
              · have hF := q_if_t (by first | exact c_25 | exact Classical.not_not.mp c_25) hF
                refine lv_aload_n hx hb dL_law_1665 rfl (lv_at hl 3 rfl) ?_
                refine lv_iconst (v := 1) hx hb dL_law_1666 (by decide) ?_
                obtain ⟨⟨r_26, σN_27, σD_28⟩, h_29, hF⟩ := q_cl_s hF
                try dsimp only at hF
                refine gcV_i (As := [.int 1]) (rest := []) (ci := 6) (q := (RX6, TX6, 8)) F hK hN hP hD hS hA (m_X6_pan l g H.size qX AX σN_16 AP σP_22 AD σD_16 AC σC (1 : Int32) r_26 σN_27 σD_28 h_29) gL_law_X6_pan kX6_pan rfl rfl rfl rfl ⟨(Nat.le_of_ble_eq_true rfl), (Nat.le_of_ble_eq_true rfl)⟩ [0, 19, 17, 18, 9, 10, 11, 12, 13, 14, 15, 16, 1, 2, 3, 4, 5, 6, 7, 8] [20, 21, 22, 23, 24, 25, 26, 27, 28, 29, 30, 31] rfl rfl rfl (by decide) rfl rfl rfl rfl rfl hl.1 (Nat.le_of_ble_eq_true rfl) dL_law_1667 ⟨(Nat.le_of_ble_eq_true rfl), (Nat.le_of_ble_eq_true rfl)⟩ (fun r_w u_w H locs hw hP hD hS => ?_)
                have hP : va_P g.1 vwCl ([((AX 5), .inr (5, oX5 AW (.ref qH))), aI g (AW 0) 121 (σW 0), aI g (AW 1) 11 (σW 1), ((AX 6), .inr (4, oX4 AY (σY 99))), aI g (AY 0) 410 (σY 0), aI g (AY 1) 50 (σY 1), aI g (AY 2) 10 (σY 2), ((AX 7), .inr (0, oX0 AK)), aJ g (AK 0) 11 (ℓK 0), aJ g (AK 1) 11 (ℓK 1), aI g (AK 2) 61 (σK 2), aI g qH 10240 (σH 0), (qX, .inr (6, oX6 AX)), ((AX 4), .inr (2, oX2 (σN_27 99))), ((AX 3), .inr (3, oX3 AP (σP_22 99))), aI g (AP 0) 60 (σP_22 0), ((AX 1), .inr (1, oC AD (σD_28 99))), aI g (AD 0) 121 (σD_28 0), aI g (AD 1) 10 (σD_28 1), aI g (AD 2) 10 (σD_28 2), aI g (AD 3) 10 (σD_28 3), aI g (AD 4) 10 (σD_28 4), aI g (AD 5) 8 (σD_28 5), aI g (AD 6) 8 (σD_28 6), ((AX 0), .inr (1, oC AC (σC 99))), aI g (AC 0) 121 (σC 0), aI g (AC 1) 10 (σC 1), aI g (AC 2) 10 (σC 2), aI g (AC 3) 10 (σC 3), aI g (AC 4) 10 (σC 4), aI g (AC 5) 8 (σC 5), aI g (AC 6) 8 (σC 6)]) H := hP
                have hD : va_D Z ([((AX 5), .inr (5, oX5 AW (.ref qH))), aI g (AW 0) 121 (σW 0), aI g (AW 1) 11 (σW 1), ((AX 6), .inr (4, oX4 AY (σY 99))), aI g (AY 0) 410 (σY 0), aI g (AY 1) 50 (σY 1), aI g (AY 2) 10 (σY 2), ((AX 7), .inr (0, oX0 AK)), aJ g (AK 0) 11 (ℓK 0), aJ g (AK 1) 11 (ℓK 1), aI g (AK 2) 61 (σK 2), aI g qH 10240 (σH 0), (qX, .inr (6, oX6 AX)), ((AX 4), .inr (2, oX2 (σN_27 99))), ((AX 3), .inr (3, oX3 AP (σP_22 99))), aI g (AP 0) 60 (σP_22 0), ((AX 1), .inr (1, oC AD (σD_28 99))), aI g (AD 0) 121 (σD_28 0), aI g (AD 1) 10 (σD_28 1), aI g (AD 2) 10 (σD_28 2), aI g (AD 3) 10 (σD_28 3), aI g (AD 4) 10 (σD_28 4), aI g (AD 5) 8 (σD_28 5), aI g (AD 6) 8 (σD_28 6), ((AX 0), .inr (1, oC AC (σC 99))), aI g (AC 0) 121 (σC 0), aI g (AC 1) 10 (σC 1), aI g (AC 2) 10 (σC 2), aI g (AC 3) 10 (σC 3), aI g (AC 4) 10 (σC 4), aI g (AC 5) 8 (σC 5), aI g (AC 6) 8 (σC 6)]) := hD
                have hP : va_P g.1 vwCl (wX6 qX AX ++ wX1 g (AX 0) AC σC ++ wX1 g (AX 1) AD σD_28 ++ wX3 g (AX 3) AP σP_22 ++ wX2 (AX 4) σN_27 ++ wX5 g (AX 5) AW (.ref qH) σW ++ wX4 g (AX 6) AY σY ++ wX0 g (AX 7) AK σK ℓK ++ wH g qH σH) H := hP.sub [12, 24, 25, 26, 27, 28, 29, 30, 31, 16, 17, 18, 19, 20, 21, 22, 23, 14, 15, 13, 0, 1, 2, 3, 4, 5, 6, 7, 8, 9, 10, 11] rfl
                have hD : va_D Z (wX6 qX AX ++ wX1 g (AX 0) AC σC ++ wX1 g (AX 1) AD σD_28 ++ wX3 g (AX 3) AP σP_22 ++ wX2 (AX 4) σN_27 ++ wX5 g (AX 5) AW (.ref qH) σW ++ wX4 g (AX 6) AY σY ++ wX0 g (AX 7) AK σK ℓK ++ wH g qH σH) := hD.sub [12, 24, 25, 26, 27, 28, 29, 30, 31, 16, 17, 18, 19, 20, 21, 22, 23, 14, 15, 13, 0, 1, 2, 3, 4, 5, 6, 7, 8, 9, 10, 11] (by decide) rfl
                obtain rfl : r_26 = r_w := hw.symm
                refine lv_iload hx hb dL_law_1670 (lv_at hl 0 rfl) ?_
                refine lv_icmp_ne (tgt := 1690) hx hb dL_law_1672 (by decide) (fun c_31 => ?_) (fun c_31 => ?_)
                · have hF := q_if_f c_31 hF
                  refine lv_iconst (v := 0) hx hb dL_law_1690 (by decide) ?_
                  exact absurd hF (by decide)
                · have hF := q_if_t (by first | exact c_31 | exact Classical.not_not.mp c_31) hF
                  refine lv_aload_n hx hb dL_law_1675 rfl (lv_at hl 3 rfl) ?_
                  refine lv_iconst (v := 2) hx hb dL_law_1676 (by decide) ?_
                  obtain ⟨⟨r_32, σN_33, σD_34⟩, h_35, hF⟩ := q_cl_s hF
                  try dsimp only at hF
                  refine gcV_i (As := [.int 2]) (rest := []) (ci := 6) (q := (RX6, TX6, 8)) F hK hN hP hD hS hA (m_X6_pan l g H.size qX AX σN_27 AP σP_22 AD σD_28 AC σC (2 : Int32) r_32 σN_33 σD_34 h_35) gL_law_X6_pan kX6_pan rfl rfl rfl rfl ⟨(Nat.le_of_ble_eq_true rfl), (Nat.le_of_ble_eq_true rfl)⟩ [0, 19, 17, 18, 9, 10, 11, 12, 13, 14, 15, 16, 1, 2, 3, 4, 5, 6, 7, 8] [20, 21, 22, 23, 24, 25, 26, 27, 28, 29, 30, 31] rfl rfl rfl (by decide) rfl rfl rfl rfl rfl hl.1 (Nat.le_of_ble_eq_true rfl) dL_law_1677 ⟨(Nat.le_of_ble_eq_true rfl), (Nat.le_of_ble_eq_true rfl)⟩ (fun r_w u_w H locs hw hP hD hS => ?_)
                  have hP : va_P g.1 vwCl ([((AX 5), .inr (5, oX5 AW (.ref qH))), aI g (AW 0) 121 (σW 0), aI g (AW 1) 11 (σW 1), ((AX 6), .inr (4, oX4 AY (σY 99))), aI g (AY 0) 410 (σY 0), aI g (AY 1) 50 (σY 1), aI g (AY 2) 10 (σY 2), ((AX 7), .inr (0, oX0 AK)), aJ g (AK 0) 11 (ℓK 0), aJ g (AK 1) 11 (ℓK 1), aI g (AK 2) 61 (σK 2), aI g qH 10240 (σH 0), (qX, .inr (6, oX6 AX)), ((AX 4), .inr (2, oX2 (σN_33 99))), ((AX 3), .inr (3, oX3 AP (σP_22 99))), aI g (AP 0) 60 (σP_22 0), ((AX 1), .inr (1, oC AD (σD_34 99))), aI g (AD 0) 121 (σD_34 0), aI g (AD 1) 10 (σD_34 1), aI g (AD 2) 10 (σD_34 2), aI g (AD 3) 10 (σD_34 3), aI g (AD 4) 10 (σD_34 4), aI g (AD 5) 8 (σD_34 5), aI g (AD 6) 8 (σD_34 6), ((AX 0), .inr (1, oC AC (σC 99))), aI g (AC 0) 121 (σC 0), aI g (AC 1) 10 (σC 1), aI g (AC 2) 10 (σC 2), aI g (AC 3) 10 (σC 3), aI g (AC 4) 10 (σC 4), aI g (AC 5) 8 (σC 5), aI g (AC 6) 8 (σC 6)]) H := hP
                  have hD : va_D Z ([((AX 5), .inr (5, oX5 AW (.ref qH))), aI g (AW 0) 121 (σW 0), aI g (AW 1) 11 (σW 1), ((AX 6), .inr (4, oX4 AY (σY 99))), aI g (AY 0) 410 (σY 0), aI g (AY 1) 50 (σY 1), aI g (AY 2) 10 (σY 2), ((AX 7), .inr (0, oX0 AK)), aJ g (AK 0) 11 (ℓK 0), aJ g (AK 1) 11 (ℓK 1), aI g (AK 2) 61 (σK 2), aI g qH 10240 (σH 0), (qX, .inr (6, oX6 AX)), ((AX 4), .inr (2, oX2 (σN_33 99))), ((AX 3), .inr (3, oX3 AP (σP_22 99))), aI g (AP 0) 60 (σP_22 0), ((AX 1), .inr (1, oC AD (σD_34 99))), aI g (AD 0) 121 (σD_34 0), aI g (AD 1) 10 (σD_34 1), aI g (AD 2) 10 (σD_34 2), aI g (AD 3) 10 (σD_34 3), aI g (AD 4) 10 (σD_34 4), aI g (AD 5) 8 (σD_34 5), aI g (AD 6) 8 (σD_34 6), ((AX 0), .inr (1, oC AC (σC 99))), aI g (AC 0) 121 (σC 0), aI g (AC 1) 10 (σC 1), aI g (AC 2) 10 (σC 2), aI g (AC 3) 10 (σC 3), aI g (AC 4) 10 (σC 4), aI g (AC 5) 8 (σC 5), aI g (AC 6) 8 (σC 6)]) := hD
                  have hP : va_P g.1 vwCl (wX6 qX AX ++ wX1 g (AX 0) AC σC ++ wX1 g (AX 1) AD σD_34 ++ wX3 g (AX 3) AP σP_22 ++ wX2 (AX 4) σN_33 ++ wX5 g (AX 5) AW (.ref qH) σW ++ wX4 g (AX 6) AY σY ++ wX0 g (AX 7) AK σK ℓK ++ wH g qH σH) H := hP.sub [12, 24, 25, 26, 27, 28, 29, 30, 31, 16, 17, 18, 19, 20, 21, 22, 23, 14, 15, 13, 0, 1, 2, 3, 4, 5, 6, 7, 8, 9, 10, 11] rfl
                  have hD : va_D Z (wX6 qX AX ++ wX1 g (AX 0) AC σC ++ wX1 g (AX 1) AD σD_34 ++ wX3 g (AX 3) AP σP_22 ++ wX2 (AX 4) σN_33 ++ wX5 g (AX 5) AW (.ref qH) σW ++ wX4 g (AX 6) AY σY ++ wX0 g (AX 7) AK σK ℓK ++ wH g qH σH) := hD.sub [12, 24, 25, 26, 27, 28, 29, 30, 31, 16, 17, 18, 19, 20, 21, 22, 23, 14, 15, 13, 0, 1, 2, 3, 4, 5, 6, 7, 8, 9, 10, 11] (by decide) rfl
                  obtain rfl : r_32 = r_w := hw.symm
                  refine lv_iload hx hb dL_law_1680 (lv_at hl 1 rfl) ?_
                  refine lv_iconst (v := 1) hx hb dL_law_1682 (by decide) ?_
                  refine lv_iadd hx hb dL_law_1683 ?_
                  refine lv_iload hx hb dL_law_1684 (lv_at hl 8 rfl) ?_
                  obtain ⟨n_37, hF⟩ := q_nz_s hF
                  refine lv_irem hx hb dL_law_1686 n_37 ?_
                  refine lv_icmp_eq (tgt := 1692) hx hb dL_law_1687 (by decide) (fun c_38 => ?_) (fun c_38 => ?_)
                  · have hF := q_if_t c_38 hF
                    refine lv_iinc (v := v17_16 + 1) (lv' := [(17, .int (v17_16 + 1)), (18, .int v18_19), (0, .ref b), (1, .ref qX), (2, .int v2), (4, .int v4), (7, .int v7), (9, .int v9), (16, .int v16)]) hx hb dL_law_1692 hl (k := 1) rfl rfl (by decide) rfl (fun ls hl => ?_)
                    refine lv_goto (tgt := 1617) hx hb dL_law_1695 (by decide) ?_
                    exact ag (v17_16 + 1, σD_34, σP_22, σN_33) hF _ _ _ hP hD hS (lv_sub hl [0, 2, 3, 4, 5, 6, 7, 8] rfl)
                  · have hF := q_if_f c_38 hF
                    refine lv_iconst (v := 0) hx hb dL_law_1690 (by decide) ?_
                    exact absurd hF (by decide)
            · have hF := q_if_f c_18 hF
              refine lv_bipush (v := 99) hx hb dL_law_1637 (by decide) ?_
              refine lv_goto (tgt := 1650) hx hb dL_law_1639 (by decide) ?_
              refine lv_istore (lv' := [(18, .int 99), (17, .int v17_16), (0, .ref b), (1, .ref qX), (2, .int v2), (4, .int v4), (7, .int v7), (9, .int v9), (16, .int v16)]) hx hb dL_law_1650 hl (by decide) rfl (fun ls hl => ?_)
              refine lv_aload_n hx hb dL_law_1652 rfl (lv_at hl 3 rfl) ?_
              refine lv_bipush (v := 126) hx hb dL_law_1653 (by decide) ?_
              obtain ⟨⟨r_39, σP_40⟩, h_41, hF⟩ := q_cl_s hF
              try dsimp only at hF
              refine gcV_i (As := [.int 126]) (rest := []) (ci := 6) (q := (RX6, TX6, 8)) F hK hN hP hD hS hA (m_X6_say l g H.size qX AX AP σP_16 (126 : Int32) r_39 σP_40 h_41) gL_law_X6_say kX6_say rfl rfl rfl rfl ⟨(Nat.le_of_ble_eq_true rfl), (Nat.le_of_ble_eq_true rfl)⟩ [0, 17, 18] [1, 2, 3, 4, 5, 6, 7, 8, 9, 10, 11, 12, 13, 14, 15, 16, 19, 20, 21, 22, 23, 24, 25, 26, 27, 28, 29, 30, 31] rfl rfl rfl (by decide) rfl rfl rfl rfl rfl hl.1 (Nat.le_of_ble_eq_true rfl) dL_law_1655 ⟨(Nat.le_of_ble_eq_true rfl), (Nat.le_of_ble_eq_true rfl)⟩ (fun r_w u_w H locs hw hP hD hS => ?_)
              have hP : va_P g.1 vwCl ([((AX 0), .inr (1, oC AC (σC 99))), aI g (AC 0) 121 (σC 0), aI g (AC 1) 10 (σC 1), aI g (AC 2) 10 (σC 2), aI g (AC 3) 10 (σC 3), aI g (AC 4) 10 (σC 4), aI g (AC 5) 8 (σC 5), aI g (AC 6) 8 (σC 6), ((AX 1), .inr (1, oC AD (σD_16 99))), aI g (AD 0) 121 (σD_16 0), aI g (AD 1) 10 (σD_16 1), aI g (AD 2) 10 (σD_16 2), aI g (AD 3) 10 (σD_16 3), aI g (AD 4) 10 (σD_16 4), aI g (AD 5) 8 (σD_16 5), aI g (AD 6) 8 (σD_16 6), ((AX 4), .inr (2, oX2 (σN_16 99))), ((AX 5), .inr (5, oX5 AW (.ref qH))), aI g (AW 0) 121 (σW 0), aI g (AW 1) 11 (σW 1), ((AX 6), .inr (4, oX4 AY (σY 99))), aI g (AY 0) 410 (σY 0), aI g (AY 1) 50 (σY 1), aI g (AY 2) 10 (σY 2), ((AX 7), .inr (0, oX0 AK)), aJ g (AK 0) 11 (ℓK 0), aJ g (AK 1) 11 (ℓK 1), aI g (AK 2) 61 (σK 2), aI g qH 10240 (σH 0), (qX, .inr (6, oX6 AX)), ((AX 3), .inr (3, oX3 AP (σP_40 99))), aI g (AP 0) 60 (σP_40 0)]) H := hP
              have hD : va_D Z ([((AX 0), .inr (1, oC AC (σC 99))), aI g (AC 0) 121 (σC 0), aI g (AC 1) 10 (σC 1), aI g (AC 2) 10 (σC 2), aI g (AC 3) 10 (σC 3), aI g (AC 4) 10 (σC 4), aI g (AC 5) 8 (σC 5), aI g (AC 6) 8 (σC 6), ((AX 1), .inr (1, oC AD (σD_16 99))), aI g (AD 0) 121 (σD_16 0), aI g (AD 1) 10 (σD_16 1), aI g (AD 2) 10 (σD_16 2), aI g (AD 3) 10 (σD_16 3), aI g (AD 4) 10 (σD_16 4), aI g (AD 5) 8 (σD_16 5), aI g (AD 6) 8 (σD_16 6), ((AX 4), .inr (2, oX2 (σN_16 99))), ((AX 5), .inr (5, oX5 AW (.ref qH))), aI g (AW 0) 121 (σW 0), aI g (AW 1) 11 (σW 1), ((AX 6), .inr (4, oX4 AY (σY 99))), aI g (AY 0) 410 (σY 0), aI g (AY 1) 50 (σY 1), aI g (AY 2) 10 (σY 2), ((AX 7), .inr (0, oX0 AK)), aJ g (AK 0) 11 (ℓK 0), aJ g (AK 1) 11 (ℓK 1), aI g (AK 2) 61 (σK 2), aI g qH 10240 (σH 0), (qX, .inr (6, oX6 AX)), ((AX 3), .inr (3, oX3 AP (σP_40 99))), aI g (AP 0) 60 (σP_40 0)]) := hD
              have hP : va_P g.1 vwCl (wX6 qX AX ++ wX1 g (AX 0) AC σC ++ wX1 g (AX 1) AD σD_16 ++ wX3 g (AX 3) AP σP_40 ++ wX2 (AX 4) σN_16 ++ wX5 g (AX 5) AW (.ref qH) σW ++ wX4 g (AX 6) AY σY ++ wX0 g (AX 7) AK σK ℓK ++ wH g qH σH) H := hP.sub [29, 0, 1, 2, 3, 4, 5, 6, 7, 8, 9, 10, 11, 12, 13, 14, 15, 30, 31, 16, 17, 18, 19, 20, 21, 22, 23, 24, 25, 26, 27, 28] rfl
              have hD : va_D Z (wX6 qX AX ++ wX1 g (AX 0) AC σC ++ wX1 g (AX 1) AD σD_16 ++ wX3 g (AX 3) AP σP_40 ++ wX2 (AX 4) σN_16 ++ wX5 g (AX 5) AW (.ref qH) σW ++ wX4 g (AX 6) AY σY ++ wX0 g (AX 7) AK σK ℓK ++ wH g qH σH) := hD.sub [29, 0, 1, 2, 3, 4, 5, 6, 7, 8, 9, 10, 11, 12, 13, 14, 15, 30, 31, 16, 17, 18, 19, 20, 21, 22, 23, 24, 25, 26, 27, 28] (by decide) rfl
              obtain rfl : r_39 = r_w := hw.symm
              refine lv_iconst (v := 4) hx hb dL_law_1658 (by decide) ?_
              refine lv_iload hx hb dL_law_1659 (lv_at hl 1 rfl) ?_
              refine lv_iadd hx hb dL_law_1661 ?_
              refine lv_icmp_ne (tgt := 1690) hx hb dL_law_1662 (by decide) (fun c_43 => ?_) (fun c_43 => ?_)
              · have hF := q_if_f c_43 hF
                refine lv_iconst (v := 0) hx hb dL_law_1690 (by decide) ?_
                exact absurd hF (by decide)
              · have hF := q_if_t (by first | exact c_43 | exact Classical.not_not.mp c_43) hF
                refine lv_aload_n hx hb dL_law_1665 rfl (lv_at hl 3 rfl) ?_
                refine lv_iconst (v := 1) hx hb dL_law_1666 (by decide) ?_
                obtain ⟨⟨r_44, σN_45, σD_46⟩, h_47, hF⟩ := q_cl_s hF
                try dsimp only at hF
                refine gcV_i (As := [.int 1]) (rest := []) (ci := 6) (q := (RX6, TX6, 8)) F hK hN hP hD hS hA (m_X6_pan l g H.size qX AX σN_16 AP σP_40 AD σD_16 AC σC (1 : Int32) r_44 σN_45 σD_46 h_47) gL_law_X6_pan kX6_pan rfl rfl rfl rfl ⟨(Nat.le_of_ble_eq_true rfl), (Nat.le_of_ble_eq_true rfl)⟩ [0, 19, 17, 18, 9, 10, 11, 12, 13, 14, 15, 16, 1, 2, 3, 4, 5, 6, 7, 8] [20, 21, 22, 23, 24, 25, 26, 27, 28, 29, 30, 31] rfl rfl rfl (by decide) rfl rfl rfl rfl rfl hl.1 (Nat.le_of_ble_eq_true rfl) dL_law_1667 ⟨(Nat.le_of_ble_eq_true rfl), (Nat.le_of_ble_eq_true rfl)⟩ (fun r_w u_w H locs hw hP hD hS => ?_)
                have hP : va_P g.1 vwCl ([((AX 5), .inr (5, oX5 AW (.ref qH))), aI g (AW 0) 121 (σW 0), aI g (AW 1) 11 (σW 1), ((AX 6), .inr (4, oX4 AY (σY 99))), aI g (AY 0) 410 (σY 0), aI g (AY 1) 50 (σY 1), aI g (AY 2) 10 (σY 2), ((AX 7), .inr (0, oX0 AK)), aJ g (AK 0) 11 (ℓK 0), aJ g (AK 1) 11 (ℓK 1), aI g (AK 2) 61 (σK 2), aI g qH 10240 (σH 0), (qX, .inr (6, oX6 AX)), ((AX 4), .inr (2, oX2 (σN_45 99))), ((AX 3), .inr (3, oX3 AP (σP_40 99))), aI g (AP 0) 60 (σP_40 0), ((AX 1), .inr (1, oC AD (σD_46 99))), aI g (AD 0) 121 (σD_46 0), aI g (AD 1) 10 (σD_46 1), aI g (AD 2) 10 (σD_46 2), aI g (AD 3) 10 (σD_46 3), aI g (AD 4) 10 (σD_46 4), aI g (AD 5) 8 (σD_46 5), aI g (AD 6) 8 (σD_46 6), ((AX 0), .inr (1, oC AC (σC 99))), aI g (AC 0) 121 (σC 0), aI g (AC 1) 10 (σC 1), aI g (AC 2) 10 (σC 2), aI g (AC 3) 10 (σC 3), aI g (AC 4) 10 (σC 4), aI g (AC 5) 8 (σC 5), aI g (AC 6) 8 (σC 6)]) H := hP
                have hD : va_D Z ([((AX 5), .inr (5, oX5 AW (.ref qH))), aI g (AW 0) 121 (σW 0), aI g (AW 1) 11 (σW 1), ((AX 6), .inr (4, oX4 AY (σY 99))), aI g (AY 0) 410 (σY 0), aI g (AY 1) 50 (σY 1), aI g (AY 2) 10 (σY 2), ((AX 7), .inr (0, oX0 AK)), aJ g (AK 0) 11 (ℓK 0), aJ g (AK 1) 11 (ℓK 1), aI g (AK 2) 61 (σK 2), aI g qH 10240 (σH 0), (qX, .inr (6, oX6 AX)), ((AX 4), .inr (2, oX2 (σN_45 99))), ((AX 3), .inr (3, oX3 AP (σP_40 99))), aI g (AP 0) 60 (σP_40 0), ((AX 1), .inr (1, oC AD (σD_46 99))), aI g (AD 0) 121 (σD_46 0), aI g (AD 1) 10 (σD_46 1), aI g (AD 2) 10 (σD_46 2), aI g (AD 3) 10 (σD_46 3), aI g (AD 4) 10 (σD_46 4), aI g (AD 5) 8 (σD_46 5), aI g (AD 6) 8 (σD_46 6), ((AX 0), .inr (1, oC AC (σC 99))), aI g (AC 0) 121 (σC 0), aI g (AC 1) 10 (σC 1), aI g (AC 2) 10 (σC 2), aI g (AC 3) 10 (σC 3), aI g (AC 4) 10 (σC 4), aI g (AC 5) 8 (σC 5), aI g (AC 6) 8 (σC 6)]) := hD
                have hP : va_P g.1 vwCl (wX6 qX AX ++ wX1 g (AX 0) AC σC ++ wX1 g (AX 1) AD σD_46 ++ wX3 g (AX 3) AP σP_40 ++ wX2 (AX 4) σN_45 ++ wX5 g (AX 5) AW (.ref qH) σW ++ wX4 g (AX 6) AY σY ++ wX0 g (AX 7) AK σK ℓK ++ wH g qH σH) H := hP.sub [12, 24, 25, 26, 27, 28, 29, 30, 31, 16, 17, 18, 19, 20, 21, 22, 23, 14, 15, 13, 0, 1, 2, 3, 4, 5, 6, 7, 8, 9, 10, 11] rfl
                have hD : va_D Z (wX6 qX AX ++ wX1 g (AX 0) AC σC ++ wX1 g (AX 1) AD σD_46 ++ wX3 g (AX 3) AP σP_40 ++ wX2 (AX 4) σN_45 ++ wX5 g (AX 5) AW (.ref qH) σW ++ wX4 g (AX 6) AY σY ++ wX0 g (AX 7) AK σK ℓK ++ wH g qH σH) := hD.sub [12, 24, 25, 26, 27, 28, 29, 30, 31, 16, 17, 18, 19, 20, 21, 22, 23, 14, 15, 13, 0, 1, 2, 3, 4, 5, 6, 7, 8, 9, 10, 11] (by decide) rfl
                obtain rfl : r_44 = r_w := hw.symm
                refine lv_iload hx hb dL_law_1670 (lv_at hl 0 rfl) ?_
                refine lv_icmp_ne (tgt := 1690) hx hb dL_law_1672 (by decide) (fun c_49 => ?_) (fun c_49 => ?_)
                · have hF := q_if_f c_49 hF
                  refine lv_iconst (v := 0) hx hb dL_law_1690 (by decide) ?_
                  exact absurd hF (by decide)
                · have hF := q_if_t (by first | exact c_49 | exact Classical.not_not.mp c_49) hF
                  refine lv_aload_n hx hb dL_law_1675 rfl (lv_at hl 3 rfl) ?_
                  refine lv_iconst (v := 2) hx hb dL_law_1676 (by decide) ?_
                  obtain ⟨⟨r_50, σN_51, σD_52⟩, h_53, hF⟩ := q_cl_s hF
                  try dsimp only at hF
                  refine gcV_i (As := [.int 2]) (rest := []) (ci := 6) (q := (RX6, TX6, 8)) F hK hN hP hD hS hA (m_X6_pan l g H.size qX AX σN_45 AP σP_40 AD σD_46 AC σC (2 : Int32) r_50 σN_51 σD_52 h_53) gL_law_X6_pan kX6_pan rfl rfl rfl rfl ⟨(Nat.le_of_ble_eq_true rfl), (Nat.le_of_ble_eq_true rfl)⟩ [0, 19, 17, 18, 9, 10, 11, 12, 13, 14, 15, 16, 1, 2, 3, 4, 5, 6, 7, 8] [20, 21, 22, 23, 24, 25, 26, 27, 28, 29, 30, 31] rfl rfl rfl (by decide) rfl rfl rfl rfl rfl hl.1 (Nat.le_of_ble_eq_true rfl) dL_law_1677 ⟨(Nat.le_of_ble_eq_true rfl), (Nat.le_of_ble_eq_true rfl)⟩ (fun r_w u_w H locs hw hP hD hS => ?_)
                  have hP : va_P g.1 vwCl ([((AX 5), .inr (5, oX5 AW (.ref qH))), aI g (AW 0) 121 (σW 0), aI g (AW 1) 11 (σW 1), ((AX 6), .inr (4, oX4 AY (σY 99))), aI g (AY 0) 410 (σY 0), aI g (AY 1) 50 (σY 1), aI g (AY 2) 10 (σY 2), ((AX 7), .inr (0, oX0 AK)), aJ g (AK 0) 11 (ℓK 0), aJ g (AK 1) 11 (ℓK 1), aI g (AK 2) 61 (σK 2), aI g qH 10240 (σH 0), (qX, .inr (6, oX6 AX)), ((AX 4), .inr (2, oX2 (σN_51 99))), ((AX 3), .inr (3, oX3 AP (σP_40 99))), aI g (AP 0) 60 (σP_40 0), ((AX 1), .inr (1, oC AD (σD_52 99))), aI g (AD 0) 121 (σD_52 0), aI g (AD 1) 10 (σD_52 1), aI g (AD 2) 10 (σD_52 2), aI g (AD 3) 10 (σD_52 3), aI g (AD 4) 10 (σD_52 4), aI g (AD 5) 8 (σD_52 5), aI g (AD 6) 8 (σD_52 6), ((AX 0), .inr (1, oC AC (σC 99))), aI g (AC 0) 121 (σC 0), aI g (AC 1) 10 (σC 1), aI g (AC 2) 10 (σC 2), aI g (AC 3) 10 (σC 3), aI g (AC 4) 10 (σC 4), aI g (AC 5) 8 (σC 5), aI g (AC 6) 8 (σC 6)]) H := hP
                  have hD : va_D Z ([((AX 5), .inr (5, oX5 AW (.ref qH))), aI g (AW 0) 121 (σW 0), aI g (AW 1) 11 (σW 1), ((AX 6), .inr (4, oX4 AY (σY 99))), aI g (AY 0) 410 (σY 0), aI g (AY 1) 50 (σY 1), aI g (AY 2) 10 (σY 2), ((AX 7), .inr (0, oX0 AK)), aJ g (AK 0) 11 (ℓK 0), aJ g (AK 1) 11 (ℓK 1), aI g (AK 2) 61 (σK 2), aI g qH 10240 (σH 0), (qX, .inr (6, oX6 AX)), ((AX 4), .inr (2, oX2 (σN_51 99))), ((AX 3), .inr (3, oX3 AP (σP_40 99))), aI g (AP 0) 60 (σP_40 0), ((AX 1), .inr (1, oC AD (σD_52 99))), aI g (AD 0) 121 (σD_52 0), aI g (AD 1) 10 (σD_52 1), aI g (AD 2) 10 (σD_52 2), aI g (AD 3) 10 (σD_52 3), aI g (AD 4) 10 (σD_52 4), aI g (AD 5) 8 (σD_52 5), aI g (AD 6) 8 (σD_52 6), ((AX 0), .inr (1, oC AC (σC 99))), aI g (AC 0) 121 (σC 0), aI g (AC 1) 10 (σC 1), aI g (AC 2) 10 (σC 2), aI g (AC 3) 10 (σC 3), aI g (AC 4) 10 (σC 4), aI g (AC 5) 8 (σC 5), aI g (AC 6) 8 (σC 6)]) := hD
                  have hP : va_P g.1 vwCl (wX6 qX AX ++ wX1 g (AX 0) AC σC ++ wX1 g (AX 1) AD σD_52 ++ wX3 g (AX 3) AP σP_40 ++ wX2 (AX 4) σN_51 ++ wX5 g (AX 5) AW (.ref qH) σW ++ wX4 g (AX 6) AY σY ++ wX0 g (AX 7) AK σK ℓK ++ wH g qH σH) H := hP.sub [12, 24, 25, 26, 27, 28, 29, 30, 31, 16, 17, 18, 19, 20, 21, 22, 23, 14, 15, 13, 0, 1, 2, 3, 4, 5, 6, 7, 8, 9, 10, 11] rfl
                  have hD : va_D Z (wX6 qX AX ++ wX1 g (AX 0) AC σC ++ wX1 g (AX 1) AD σD_52 ++ wX3 g (AX 3) AP σP_40 ++ wX2 (AX 4) σN_51 ++ wX5 g (AX 5) AW (.ref qH) σW ++ wX4 g (AX 6) AY σY ++ wX0 g (AX 7) AK σK ℓK ++ wH g qH σH) := hD.sub [12, 24, 25, 26, 27, 28, 29, 30, 31, 16, 17, 18, 19, 20, 21, 22, 23, 14, 15, 13, 0, 1, 2, 3, 4, 5, 6, 7, 8, 9, 10, 11] (by decide) rfl
                  obtain rfl : r_50 = r_w := hw.symm
                  refine lv_iload hx hb dL_law_1680 (lv_at hl 1 rfl) ?_
                  refine lv_iconst (v := 1) hx hb dL_law_1682 (by decide) ?_
                  refine lv_iadd hx hb dL_law_1683 ?_
                  refine lv_iload hx hb dL_law_1684 (lv_at hl 8 rfl) ?_
                  obtain ⟨n_55, hF⟩ := q_nz_s hF
                  refine lv_irem hx hb dL_law_1686 n_55 ?_
                  refine lv_icmp_eq (tgt := 1692) hx hb dL_law_1687 (by decide) (fun c_56 => ?_) (fun c_56 => ?_)
                  · have hF := q_if_t c_56 hF
                    refine lv_iinc (v := v17_16 + 1) (lv' := [(17, .int (v17_16 + 1)), (18, .int 99), (0, .ref b), (1, .ref qX), (2, .int v2), (4, .int v4), (7, .int v7), (9, .int v9), (16, .int v16)]) hx hb dL_law_1692 hl (k := 1) rfl rfl (by decide) rfl (fun ls hl => ?_)
                    refine lv_goto (tgt := 1617) hx hb dL_law_1695 (by decide) ?_
                    exact ag (v17_16 + 1, σD_52, σP_40, σN_51) hF _ _ _ hP hD hS (lv_sub hl [0, 2, 3, 4, 5, 6, 7, 8] rfl)
                  · have hF := q_if_f c_56 hF
                    refine lv_iconst (v := 0) hx hb dL_law_1690 (by decide) ?_
                    exact absurd hF (by decide)
      · have hF := q_if_f c_15 hF
        refine lv_iconst (v := 0) hx hb dL_law_1612 (by decide) ?_
        exact absurd hF (by decide)
