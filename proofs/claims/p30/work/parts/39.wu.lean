set_option maxHeartbeats 8000000 in
set_option maxRecDepth 100000 in
theorem gs_501 {p : Program} {l : Launch} {e : Env} {s : State} {m : MethodId} {below : List Frame} {meth : Method} {c : Code} {b : Nat} {g : GT} {Z : Nat → Prop} {H : Heap} {locs : List Loc} {ls : Array Slot} {qH qX : Nat} {AX AC AD AP AW AY AK : Nat → Nat} {L : Nat} {xs : Nat → Int32} {σC : qS} {σD : qS} {σP : qS} {σN : qS} {σW : qS} {σY : qS} {σK : qS} {ℓK : qL} {σH : qS} {v2 : Int32} {v3 : Int32} {v4 : Int32} {v7 : Int32} {v9 : Int32}
    (hx : p.tables.exec = Jvm.exec) (hb : c.code = cL_law) (hr : meth.sig.returnType = ret) (hlocks : meth.locks = false) (F : CallFix p m c cL_law 30 s #[Value.ref b] wsL_law RL) (hK : va_K g.1 vwCl (tyL g) s) (hN : NW s) (hA : ∀ q : Nat, s.heap.size ≤ q → Z q) (hZ : Z = fun q => s.heap.size ≤ q) (hbA : ¬ Z b) (hX : va_X b L xs s s.heap) (hbl : b < s.heap.size) (hF : g_501 L xs σC σD σP σN σW σY σK ℓK σH v2 v3 v4 v7 v9 = some 1)
    (hP : va_P g.1 vwCl (wX6 qX AX ++ wX1 g (AX 0) AC σC ++ wX1 g (AX 1) AD σD ++ wX3 g (AX 3) AP σP ++ wX2 (AX 4) σN ++ wX5 g (AX 5) AW (.ref qH) σW ++ wX4 g (AX 6) AY σY ++ wX0 g (AX 7) AK σK ℓK ++ wH g qH σH) H) (hD : va_D Z (wX6 qX AX ++ wX1 g (AX 0) AC σC ++ wX1 g (AX 1) AD σD ++ wX3 g (AX 3) AP σP ++ wX2 (AX 4) σN ++ wX5 g (AX 5) AW (.ref qH) σW ++ wX4 g (AX 6) AY σY ++ wX0 g (AX 7) AK σK ℓK ++ wH g qH σH)) (hS : va_S Z s.heap H locs) (hl : lv_has ls 30 [(0, .ref b), (1, .ref qX), (2, .int v2), (3, .int v3), (4, .int v4), (7, .int v7), (9, .int v9)]) : W p l e room_1 s m #[Value.ref b] below meth c H locs 200 40000 (lw_Z below #[Value.ref b] s) (F0 m 501 ls []) := by
  have hts := F.2.2.2.2
  have hown : s.vm.findClass RL = some m.cls := F.2.2.2.1
  dsimp only [g_501] at hF
  refine lv_aload_n hx hb dL_law_501 rfl (lv_at hl 1 rfl) ?_
  obtain ⟨⟨r_1, σP_2⟩, h_3, hF⟩ := q_cl_s hF
  try dsimp only at hF
  refine gcV_i (As := []) (rest := []) (ci := 6) (q := (RX6, TX6, 8)) F hK hN hP hD hS hA (m_X6_wipe l g H.size qX AX AP σP r_1 σP_2 h_3) gL_law_X6_wipe kX6_wipe rfl rfl rfl rfl ⟨(Nat.le_of_ble_eq_true rfl), (Nat.le_of_ble_eq_true rfl)⟩ [0, 17, 18] [1, 2, 3, 4, 5, 6, 7, 8, 9, 10, 11, 12, 13, 14, 15, 16, 19, 20, 21, 22, 23, 24, 25, 26, 27, 28, 29, 30, 31] rfl rfl rfl (by decide) rfl rfl rfl rfl rfl hl.1 (Nat.le_of_ble_eq_true rfl) dL_law_502 ⟨(Nat.le_of_ble_eq_true rfl), (Nat.le_of_ble_eq_true rfl)⟩ (fun r_w u_w H locs hw hP hD hS => ?_)
  have hP : va_P g.1 vwCl ([((AX 0), .inr (1, oC AC (σC 99))), aI g (AC 0) 121 (σC 0), aI g (AC 1) 10 (σC 1), aI g (AC 2) 10 (σC 2), aI g (AC 3) 10 (σC 3), aI g (AC 4) 10 (σC 4), aI g (AC 5) 8 (σC 5), aI g (AC 6) 8 (σC 6), ((AX 1), .inr (1, oC AD (σD 99))), aI g (AD 0) 121 (σD 0), aI g (AD 1) 10 (σD 1), aI g (AD 2) 10 (σD 2), aI g (AD 3) 10 (σD 3), aI g (AD 4) 10 (σD 4), aI g (AD 5) 8 (σD 5), aI g (AD 6) 8 (σD 6), ((AX 4), .inr (2, oX2 (σN 99))), ((AX 5), .inr (5, oX5 AW (.ref qH))), aI g (AW 0) 121 (σW 0), aI g (AW 1) 11 (σW 1), ((AX 6), .inr (4, oX4 AY (σY 99))), aI g (AY 0) 410 (σY 0), aI g (AY 1) 50 (σY 1), aI g (AY 2) 10 (σY 2), ((AX 7), .inr (0, oX0 AK)), aJ g (AK 0) 11 (ℓK 0), aJ g (AK 1) 11 (ℓK 1), aI g (AK 2) 61 (σK 2), aI g qH 10240 (σH 0), (qX, .inr (6, oX6 AX)), ((AX 3), .inr (3, oX3 AP (σP_2 99))), aI g (AP 0) 60 (σP_2 0)]) H := hP
  have hD : va_D Z ([((AX 0), .inr (1, oC AC (σC 99))), aI g (AC 0) 121 (σC 0), aI g (AC 1) 10 (σC 1), aI g (AC 2) 10 (σC 2), aI g (AC 3) 10 (σC 3), aI g (AC 4) 10 (σC 4), aI g (AC 5) 8 (σC 5), aI g (AC 6) 8 (σC 6), ((AX 1), .inr (1, oC AD (σD 99))), aI g (AD 0) 121 (σD 0), aI g (AD 1) 10 (σD 1), aI g (AD 2) 10 (σD 2), aI g (AD 3) 10 (σD 3), aI g (AD 4) 10 (σD 4), aI g (AD 5) 8 (σD 5), aI g (AD 6) 8 (σD 6), ((AX 4), .inr (2, oX2 (σN 99))), ((AX 5), .inr (5, oX5 AW (.ref qH))), aI g (AW 0) 121 (σW 0), aI g (AW 1) 11 (σW 1), ((AX 6), .inr (4, oX4 AY (σY 99))), aI g (AY 0) 410 (σY 0), aI g (AY 1) 50 (σY 1), aI g (AY 2) 10 (σY 2), ((AX 7), .inr (0, oX0 AK)), aJ g (AK 0) 11 (ℓK 0), aJ g (AK 1) 11 (ℓK 1), aI g (AK 2) 61 (σK 2), aI g qH 10240 (σH 0), (qX, .inr (6, oX6 AX)), ((AX 3), .inr (3, oX3 AP (σP_2 99))), aI g (AP 0) 60 (σP_2 0)]) := hD
  have hP : va_P g.1 vwCl (wX6 qX AX ++ wX1 g (AX 0) AC σC ++ wX1 g (AX 1) AD σD ++ wX3 g (AX 3) AP σP_2 ++ wX2 (AX 4) σN ++ wX5 g (AX 5) AW (.ref qH) σW ++ wX4 g (AX 6) AY σY ++ wX0 g (AX 7) AK σK ℓK ++ wH g qH σH) H := hP.sub [29, 0, 1, 2, 3, 4, 5, 6, 7, 8, 9, 10, 11, 12, 13, 14, 15, 30, 31, 16, 17, 18, 19, 20, 21, 22, 23, 24, 25, 26, 27, 28] rfl
  have hD : va_D Z (wX6 qX AX ++ wX1 g (AX 0) AC σC ++ wX1 g (AX 1) AD σD ++ wX3 g (AX 3) AP σP_2 ++ wX2 (AX 4) σN ++ wX5 g (AX 5) AW (.ref qH) σW ++ wX4 g (AX 6) AY σY ++ wX0 g (AX 7) AK σK ℓK ++ wH g qH σH) := hD.sub [29, 0, 1, 2, 3, 4, 5, 6, 7, 8, 9, 10, 11, 12, 13, 14, 15, 30, 31, 16, 17, 18, 19, 20, 21, 22, 23, 24, 25, 26, 27, 28] (by decide) rfl
  obtain rfl : r_1 = r_w := hw.symm
  refine lv_if_lt (tgt := 526) hx hb dL_law_505 (by decide) (fun c_5 => ?_) (fun c_5 => ?_)
  · have hF := q_if_t c_5 hF
    refine lv_iconst (v := 0) hx hb dL_law_526 (by decide) ?_
    exact absurd hF (by decide)
  · have hF := q_if_f c_5 hF
    refine lv_aload_n hx hb dL_law_508 rfl (lv_at hl 1 rfl) ?_
    refine lv_bipush (v := 46) hx hb dL_law_509 (by decide) ?_
    obtain ⟨⟨r_6, σP_7⟩, h_8, hF⟩ := q_cl_s hF
    try dsimp only at hF
    refine gcV_i (As := [.int 46]) (rest := []) (ci := 6) (q := (RX6, TX6, 8)) F hK hN hP hD hS hA (m_X6_say l g H.size qX AX AP σP_2 (46 : Int32) r_6 σP_7 h_8) gL_law_X6_say kX6_say rfl rfl rfl rfl ⟨(Nat.le_of_ble_eq_true rfl), (Nat.le_of_ble_eq_true rfl)⟩ [0, 17, 18] [1, 2, 3, 4, 5, 6, 7, 8, 9, 10, 11, 12, 13, 14, 15, 16, 19, 20, 21, 22, 23, 24, 25, 26, 27, 28, 29, 30, 31] rfl rfl rfl (by decide) rfl rfl rfl rfl rfl hl.1 (Nat.le_of_ble_eq_true rfl) dL_law_511 ⟨(Nat.le_of_ble_eq_true rfl), (Nat.le_of_ble_eq_true rfl)⟩ (fun r_w u_w H locs hw hP hD hS => ?_)
    have hP : va_P g.1 vwCl ([((AX 0), .inr (1, oC AC (σC 99))), aI g (AC 0) 121 (σC 0), aI g (AC 1) 10 (σC 1), aI g (AC 2) 10 (σC 2), aI g (AC 3) 10 (σC 3), aI g (AC 4) 10 (σC 4), aI g (AC 5) 8 (σC 5), aI g (AC 6) 8 (σC 6), ((AX 1), .inr (1, oC AD (σD 99))), aI g (AD 0) 121 (σD 0), aI g (AD 1) 10 (σD 1), aI g (AD 2) 10 (σD 2), aI g (AD 3) 10 (σD 3), aI g (AD 4) 10 (σD 4), aI g (AD 5) 8 (σD 5), aI g (AD 6) 8 (σD 6), ((AX 4), .inr (2, oX2 (σN 99))), ((AX 5), .inr (5, oX5 AW (.ref qH))), aI g (AW 0) 121 (σW 0), aI g (AW 1) 11 (σW 1), ((AX 6), .inr (4, oX4 AY (σY 99))), aI g (AY 0) 410 (σY 0), aI g (AY 1) 50 (σY 1), aI g (AY 2) 10 (σY 2), ((AX 7), .inr (0, oX0 AK)), aJ g (AK 0) 11 (ℓK 0), aJ g (AK 1) 11 (ℓK 1), aI g (AK 2) 61 (σK 2), aI g qH 10240 (σH 0), (qX, .inr (6, oX6 AX)), ((AX 3), .inr (3, oX3 AP (σP_7 99))), aI g (AP 0) 60 (σP_7 0)]) H := hP
    have hD : va_D Z ([((AX 0), .inr (1, oC AC (σC 99))), aI g (AC 0) 121 (σC 0), aI g (AC 1) 10 (σC 1), aI g (AC 2) 10 (σC 2), aI g (AC 3) 10 (σC 3), aI g (AC 4) 10 (σC 4), aI g (AC 5) 8 (σC 5), aI g (AC 6) 8 (σC 6), ((AX 1), .inr (1, oC AD (σD 99))), aI g (AD 0) 121 (σD 0), aI g (AD 1) 10 (σD 1), aI g (AD 2) 10 (σD 2), aI g (AD 3) 10 (σD 3), aI g (AD 4) 10 (σD 4), aI g (AD 5) 8 (σD 5), aI g (AD 6) 8 (σD 6), ((AX 4), .inr (2, oX2 (σN 99))), ((AX 5), .inr (5, oX5 AW (.ref qH))), aI g (AW 0) 121 (σW 0), aI g (AW 1) 11 (σW 1), ((AX 6), .inr (4, oX4 AY (σY 99))), aI g (AY 0) 410 (σY 0), aI g (AY 1) 50 (σY 1), aI g (AY 2) 10 (σY 2), ((AX 7), .inr (0, oX0 AK)), aJ g (AK 0) 11 (ℓK 0), aJ g (AK 1) 11 (ℓK 1), aI g (AK 2) 61 (σK 2), aI g qH 10240 (σH 0), (qX, .inr (6, oX6 AX)), ((AX 3), .inr (3, oX3 AP (σP_7 99))), aI g (AP 0) 60 (σP_7 0)]) := hD
    have hP : va_P g.1 vwCl (wX6 qX AX ++ wX1 g (AX 0) AC σC ++ wX1 g (AX 1) AD σD ++ wX3 g (AX 3) AP σP_7 ++ wX2 (AX 4) σN ++ wX5 g (AX 5) AW (.ref qH) σW ++ wX4 g (AX 6) AY σY ++ wX0 g (AX 7) AK σK ℓK ++ wH g qH σH) H := hP.sub [29, 0, 1, 2, 3, 4, 5, 6, 7, 8, 9, 10, 11, 12, 13, 14, 15, 30, 31, 16, 17, 18, 19, 20, 21, 22, 23, 24, 25, 26, 27, 28] rfl
    have hD : va_D Z (wX6 qX AX ++ wX1 g (AX 0) AC σC ++ wX1 g (AX 1) AD σD ++ wX3 g (AX 3) AP σP_7 ++ wX2 (AX 4) σN ++ wX5 g (AX 5) AW (.ref qH) σW ++ wX4 g (AX 6) AY σY ++ wX0 g (AX 7) AK σK ℓK ++ wH g qH σH) := hD.sub [29, 0, 1, 2, 3, 4, 5, 6, 7, 8, 9, 10, 11, 12, 13, 14, 15, 30, 31, 16, 17, 18, 19, 20, 21, 22, 23, 24, 25, 26, 27, 28] (by decide) rfl
    obtain rfl : r_6 = r_w := hw.symm
    refine lv_iconst (v := 1) hx hb dL_law_514 (by decide) ?_
    refine lv_icmp_ne (tgt := 526) hx hb dL_law_515 (by decide) (fun c_10 => ?_) (fun c_10 => ?_)
    · have hF := q_if_f c_10 hF
      refine lv_iconst (v := 0) hx hb dL_law_526 (by decide) ?_
      exact absurd hF (by decide)
    · have hF := q_if_t (by first | exact c_10 | exact Classical.not_not.mp c_10) hF
      refine lv_aload_n hx hb dL_law_518 rfl (lv_at hl 1 rfl) ?_
      obtain ⟨⟨r_11, σN_12, σP_13, σD_14, σC_15⟩, h_16, hF⟩ := q_cl_s hF
      try dsimp only at hF
      refine gcV_i (As := []) (rest := []) (ci := 6) (q := (RX6, TX6, 8)) F hK hN hP hD hS hA (m_X6_done l g H.size qX AX σN AP σP_7 AD σD AC σC r_11 σN_12 σP_13 σD_14 σC_15 h_16) gL_law_X6_done kX6_done rfl rfl rfl rfl ⟨(Nat.le_of_ble_eq_true rfl), (Nat.le_of_ble_eq_true rfl)⟩ [0, 19, 17, 18, 9, 10, 11, 12, 13, 14, 15, 16, 1, 2, 3, 4, 5, 6, 7, 8] [20, 21, 22, 23, 24, 25, 26, 27, 28, 29, 30, 31] rfl rfl rfl (by decide) rfl rfl rfl rfl rfl hl.1 (Nat.le_of_ble_eq_true rfl) dL_law_519 ⟨(Nat.le_of_ble_eq_true rfl), (Nat.le_of_ble_eq_true rfl)⟩ (fun r_w u_w H locs hw hP hD hS => ?_)
      have hP : va_P g.1 vwCl ([((AX 5), .inr (5, oX5 AW (.ref qH))), aI g (AW 0) 121 (σW 0), aI g (AW 1) 11 (σW 1), ((AX 6), .inr (4, oX4 AY (σY 99))), aI g (AY 0) 410 (σY 0), aI g (AY 1) 50 (σY 1), aI g (AY 2) 10 (σY 2), ((AX 7), .inr (0, oX0 AK)), aJ g (AK 0) 11 (ℓK 0), aJ g (AK 1) 11 (ℓK 1), aI g (AK 2) 61 (σK 2), aI g qH 10240 (σH 0), (qX, .inr (6, oX6 AX)), ((AX 4), .inr (2, oX2 (σN_12 99))), ((AX 3), .inr (3, oX3 AP (σP_13 99))), aI g (AP 0) 60 (σP_13 0), ((AX 1), .inr (1, oC AD (σD_14 99))), aI g (AD 0) 121 (σD_14 0), aI g (AD 1) 10 (σD_14 1), aI g (AD 2) 10 (σD_14 2), aI g (AD 3) 10 (σD_14 3), aI g (AD 4) 10 (σD_14 4), aI g (AD 5) 8 (σD_14 5), aI g (AD 6) 8 (σD_14 6), ((AX 0), .inr (1, oC AC (σC_15 99))), aI g (AC 0) 121 (σC_15 0), aI g (AC 1) 10 (σC_15 1), aI g (AC 2) 10 (σC_15 2), aI g (AC 3) 10 (σC_15 3), aI g (AC 4) 10 (σC_15 4), aI g (AC 5) 8 (σC_15 5), aI g (AC 6) 8 (σC_15 6)]) H := hP
      have hD : va_D Z ([((AX 5), .inr (5, oX5 AW (.ref qH))), aI g (AW 0) 121 (σW 0), aI g (AW 1) 11 (σW 1), ((AX 6), .inr (4, oX4 AY (σY 99))), aI g (AY 0) 410 (σY 0), aI g (AY 1) 50 (σY 1), aI g (AY 2) 10 (σY 2), ((AX 7), .inr (0, oX0 AK)), aJ g (AK 0) 11 (ℓK 0), aJ g (AK 1) 11 (ℓK 1), aI g (AK 2) 61 (σK 2), aI g qH 10240 (σH 0), (qX, .inr (6, oX6 AX)), ((AX 4), .inr (2, oX2 (σN_12 99))), ((AX 3), .inr (3, oX3 AP (σP_13 99))), aI g (AP 0) 60 (σP_13 0), ((AX 1), .inr (1, oC AD (σD_14 99))), aI g (AD 0) 121 (σD_14 0), aI g (AD 1) 10 (σD_14 1), aI g (AD 2) 10 (σD_14 2), aI g (AD 3) 10 (σD_14 3), aI g (AD 4) 10 (σD_14 4), aI g (AD 5) 8 (σD_14 5), aI g (AD 6) 8 (σD_14 6), ((AX 0), .inr (1, oC AC (σC_15 99))), aI g (AC 0) 121 (σC_15 0), aI g (AC 1) 10 (σC_15 1), aI g (AC 2) 10 (σC_15 2), aI g (AC 3) 10 (σC_15 3), aI g (AC 4) 10 (σC_15 4), aI g (AC 5) 8 (σC_15 5), aI g (AC 6) 8 (σC_15 6)]) := hD
      have hP : va_P g.1 vwCl (wX6 qX AX ++ wX1 g (AX 0) AC σC_15 ++ wX1 g (AX 1) AD σD_14 ++ wX3 g (AX 3) AP σP_13 ++ wX2 (AX 4) σN_12 ++ wX5 g (AX 5) AW (.ref qH) σW ++ wX4 g (AX 6) AY σY ++ wX0 g (AX 7) AK σK ℓK ++ wH g qH σH) H := hP.sub [12, 24, 25, 26, 27, 28, 29, 30, 31, 16, 17, 18, 19, 20, 21, 22, 23, 14, 15, 13, 0, 1, 2, 3, 4, 5, 6, 7, 8, 9, 10, 11] rfl
      have hD : va_D Z (wX6 qX AX ++ wX1 g (AX 0) AC σC_15 ++ wX1 g (AX 1) AD σD_14 ++ wX3 g (AX 3) AP σP_13 ++ wX2 (AX 4) σN_12 ++ wX5 g (AX 5) AW (.ref qH) σW ++ wX4 g (AX 6) AY σY ++ wX0 g (AX 7) AK σK ℓK ++ wH g qH σH) := hD.sub [12, 24, 25, 26, 27, 28, 29, 30, 31, 16, 17, 18, 19, 20, 21, 22, 23, 14, 15, 13, 0, 1, 2, 3, 4, 5, 6, 7, 8, 9, 10, 11] (by decide) rfl
      obtain rfl : r_11 = r_w := hw.symm
      refine lv_iconst (v := 1) hx hb dL_law_522 (by decide) ?_
      refine lv_icmp_eq (tgt := 528) hx hb dL_law_523 (by decide) (fun c_18 => ?_) (fun c_18 => ?_)
      · have hF := q_if_t c_18 hF
        refine lv_iconst (v := 0) hx hb dL_law_528 (by decide) ?_
        refine lv_istore (lv' := [(10, .int 0), (0, .ref b), (1, .ref qX), (2, .int v2), (3, .int v3), (4, .int v4), (7, .int v7), (9, .int v9)]) hx hb dL_law_529 hl (by decide) rfl (fun ls hl => ?_)
        refine q_loop (fun u0 => wX6 qX AX ++ wX1 g (AX 0) AC σC_15 ++ wX1 g (AX 1) AD σD_14 ++ wX3 g (AX 3) AP σP_13 ++ wX2 (AX 4) σN_12 ++ wX5 g (AX 5) AW (.ref qH) u0.2 ++ wX4 g (AX 6) AY σY ++ wX0 g (AX 7) AK σK ℓK ++ wH g qH σH) (fun u0 => [(10, .int u0.1), (0, .ref b), (1, .ref qX), (2, .int v2), (3, .int v3), (4, .int v4), (7, .int v7), (9, .int v9)]) 588 hF ?_ ?_ hP hD hS (lv_sub hl [0, 1, 2, 3, 4, 5, 6, 7] rfl)
        · rintro ⟨v10_19, σW_19⟩ hF H locs ls hP hD hS hl
          try dsimp only at hF
          have hP : va_P g.1 vwCl (wX6 qX AX ++ wX1 g (AX 0) AC σC_15 ++ wX1 g (AX 1) AD σD_14 ++ wX3 g (AX 3) AP σP_13 ++ wX2 (AX 4) σN_12 ++ wX5 g (AX 5) AW (.ref qH) σW_19 ++ wX4 g (AX 6) AY σY ++ wX0 g (AX 7) AK σK ℓK ++ wH g qH σH) H := hP
          have hD : va_D Z (wX6 qX AX ++ wX1 g (AX 0) AC σC_15 ++ wX1 g (AX 1) AD σD_14 ++ wX3 g (AX 3) AP σP_13 ++ wX2 (AX 4) σN_12 ++ wX5 g (AX 5) AW (.ref qH) σW_19 ++ wX4 g (AX 6) AY σY ++ wX0 g (AX 7) AK σK ℓK ++ wH g qH σH) := hD
          have hl : lv_has ls 30 [(10, .int v10_19), (0, .ref b), (1, .ref qX), (2, .int v2), (3, .int v3), (4, .int v4), (7, .int v7), (9, .int v9)] := hl
          exact gs_588 hx hb hr hlocks F hK hN hA hZ hbA hX hbl hF hP hD hS (lv_sub hl [1, 2, 3, 4, 5, 6, 7] rfl)
        · rintro k again kk ag ⟨v10_19, σW_19⟩ hF H locs ls hP hD hS hl
          dsimp only [b_L_law_531] at hF
          have hP : va_P g.1 vwCl (wX6 qX AX ++ wX1 g (AX 0) AC σC_15 ++ wX1 g (AX 1) AD σD_14 ++ wX3 g (AX 3) AP σP_13 ++ wX2 (AX 4) σN_12 ++ wX5 g (AX 5) AW (.ref qH) σW_19 ++ wX4 g (AX 6) AY σY ++ wX0 g (AX 7) AK σK ℓK ++ wH g qH σH) H := hP
          have hD : va_D Z (wX6 qX AX ++ wX1 g (AX 0) AC σC_15 ++ wX1 g (AX 1) AD σD_14 ++ wX3 g (AX 3) AP σP_13 ++ wX2 (AX 4) σN_12 ++ wX5 g (AX 5) AW (.ref qH) σW_19 ++ wX4 g (AX 6) AY σY ++ wX0 g (AX 7) AK σK ℓK ++ wH g qH σH) := hD
          have hl : lv_has ls 30 [(10, .int v10_19), (0, .ref b), (1, .ref qX), (2, .int v2), (3, .int v3), (4, .int v4), (7, .int v7), (9, .int v9)] := hl
          refine lv_iload hx hb dL_law_531 (lv_at hl 0 rfl) ?_
          refine lv_bipush (v := 10) hx hb dL_law_533 (by decide) ?_
          refine lv_icmp_ge (tgt := 588) hx hb dL_law_535 (by decide) (fun c_20 => ?_) (fun c_20 => ?_)
          · have hF := q_if_t c_20 hF
            exact kk (v10_19, σW_19) hF _ _ _ hP hD hS (lv_sub hl [0, 1, 2, 3, 4, 5, 6, 7] rfl)
          · have hF := q_if_f c_20 hF
            refine lv_aload_n hx hb dL_law_538 rfl (lv_at hl 2 rfl) ?_
            refine lv_iload hx hb dL_law_539 (lv_at hl 0 rfl) ?_
            refine lv_iconst (v := 0) hx hb dL_law_541 (by decide) ?_
            obtain ⟨⟨r_21, σW_22⟩, h_23, hF⟩ := q_cl_s hF
            try dsimp only at hF
            refine gcV_i (As := [.int v10_19, .int 0]) (rest := []) (ci := 6) (q := (RX6, TX6, 8)) F hK hN hP hD hS hA (m_X6_keep l g H.size qX AX AW (.ref qH) σW_19 AC σC_15 v10_19 (0 : Int32) r_21 σW_22 h_23) gL_law_X6_keep kX6_keep rfl rfl rfl rfl ⟨(Nat.le_of_ble_eq_true rfl), (Nat.le_of_ble_eq_true rfl)⟩ [0, 20, 21, 22, 1, 2, 3, 4, 5, 6, 7, 8] [9, 10, 11, 12, 13, 14, 15, 16, 17, 18, 19, 23, 24, 25, 26, 27, 28, 29, 30, 31] rfl rfl rfl (by decide) rfl rfl rfl rfl rfl hl.1 (Nat.le_of_ble_eq_true rfl) dL_law_542 ⟨(Nat.le_of_ble_eq_true rfl), (Nat.le_of_ble_eq_true rfl)⟩ (fun r_w u_w H locs hw hP hD hS => ?_)
            have hP : va_P g.1 vwCl ([((AX 1), .inr (1, oC AD (σD_14 99))), aI g (AD 0) 121 (σD_14 0), aI g (AD 1) 10 (σD_14 1), aI g (AD 2) 10 (σD_14 2), aI g (AD 3) 10 (σD_14 3), aI g (AD 4) 10 (σD_14 4), aI g (AD 5) 8 (σD_14 5), aI g (AD 6) 8 (σD_14 6), ((AX 3), .inr (3, oX3 AP (σP_13 99))), aI g (AP 0) 60 (σP_13 0), ((AX 4), .inr (2, oX2 (σN_12 99))), ((AX 6), .inr (4, oX4 AY (σY 99))), aI g (AY 0) 410 (σY 0), aI g (AY 1) 50 (σY 1), aI g (AY 2) 10 (σY 2), ((AX 7), .inr (0, oX0 AK)), aJ g (AK 0) 11 (ℓK 0), aJ g (AK 1) 11 (ℓK 1), aI g (AK 2) 61 (σK 2), aI g qH 10240 (σH 0), (qX, .inr (6, oX6 AX)), ((AX 5), .inr (5, oX5 AW (.ref qH))), aI g (AW 0) 121 (σW_22 0), aI g (AW 1) 11 (σW_22 1), ((AX 0), .inr (1, oC AC (σC_15 99))), aI g (AC 0) 121 (σC_15 0), aI g (AC 1) 10 (σC_15 1), aI g (AC 2) 10 (σC_15 2), aI g (AC 3) 10 (σC_15 3), aI g (AC 4) 10 (σC_15 4), aI g (AC 5) 8 (σC_15 5), aI g (AC 6) 8 (σC_15 6)]) H := hP
            have hD : va_D Z ([((AX 1), .inr (1, oC AD (σD_14 99))), aI g (AD 0) 121 (σD_14 0), aI g (AD 1) 10 (σD_14 1), aI g (AD 2) 10 (σD_14 2), aI g (AD 3) 10 (σD_14 3), aI g (AD 4) 10 (σD_14 4), aI g (AD 5) 8 (σD_14 5), aI g (AD 6) 8 (σD_14 6), ((AX 3), .inr (3, oX3 AP (σP_13 99))), aI g (AP 0) 60 (σP_13 0), ((AX 4), .inr (2, oX2 (σN_12 99))), ((AX 6), .inr (4, oX4 AY (σY 99))), aI g (AY 0) 410 (σY 0), aI g (AY 1) 50 (σY 1), aI g (AY 2) 10 (σY 2), ((AX 7), .inr (0, oX0 AK)), aJ g (AK 0) 11 (ℓK 0), aJ g (AK 1) 11 (ℓK 1), aI g (AK 2) 61 (σK 2), aI g qH 10240 (σH 0), (qX, .inr (6, oX6 AX)), ((AX 5), .inr (5, oX5 AW (.ref qH))), aI g (AW 0) 121 (σW_22 0), aI g (AW 1) 11 (σW_22 1), ((AX 0), .inr (1, oC AC (σC_15 99))), aI g (AC 0) 121 (σC_15 0), aI g (AC 1) 10 (σC_15 1), aI g (AC 2) 10 (σC_15 2), aI g (AC 3) 10 (σC_15 3), aI g (AC 4) 10 (σC_15 4), aI g (AC 5) 8 (σC_15 5), aI g (AC 6) 8 (σC_15 6)]) := hD
            have hP : va_P g.1 vwCl (wX6 qX AX ++ wX1 g (AX 0) AC σC_15 ++ wX1 g (AX 1) AD σD_14 ++ wX3 g (AX 3) AP σP_13 ++ wX2 (AX 4) σN_12 ++ wX5 g (AX 5) AW (.ref qH) σW_22 ++ wX4 g (AX 6) AY σY ++ wX0 g (AX 7) AK σK ℓK ++ wH g qH σH) H := hP.sub [20, 24, 25, 26, 27, 28, 29, 30, 31, 0, 1, 2, 3, 4, 5, 6, 7, 8, 9, 10, 21, 22, 23, 11, 12, 13, 14, 15, 16, 17, 18, 19] rfl
            have hD : va_D Z (wX6 qX AX ++ wX1 g (AX 0) AC σC_15 ++ wX1 g (AX 1) AD σD_14 ++ wX3 g (AX 3) AP σP_13 ++ wX2 (AX 4) σN_12 ++ wX5 g (AX 5) AW (.ref qH) σW_22 ++ wX4 g (AX 6) AY σY ++ wX0 g (AX 7) AK σK ℓK ++ wH g qH σH) := hD.sub [20, 24, 25, 26, 27, 28, 29, 30, 31, 0, 1, 2, 3, 4, 5, 6, 7, 8, 9, 10, 21, 22, 23, 11, 12, 13, 14, 15, 16, 17, 18, 19] (by decide) rfl
            obtain rfl : r_21 = r_w := hw.symm
            refine lv_iload hx hb dL_law_545 (lv_at hl 0 rfl) ?_
            refine lv_if_ne (tgt := 555) hx hb dL_law_547 (by decide) (fun c_25 => ?_) (fun c_25 => ?_)
            · have hF := q_if_f c_25 hF
              refine lv_iconst (v := 1) hx hb dL_law_555 (by decide) ?_
              refine lv_icmp_ne (tgt := 580) hx hb dL_law_556 (by decide) (fun c_26 => ?_) (fun c_26 => ?_)
              · have hF := q_if_f c_26 hF
                refine lv_iconst (v := 0) hx hb dL_law_580 (by decide) ?_
                exact absurd hF (by decide)
              · have hF := q_if_t (by first | exact c_26 | exact Classical.not_not.mp c_26) hF
                refine lv_aload_n hx hb dL_law_559 rfl (lv_at hl 2 rfl) ?_
                refine lv_iload hx hb dL_law_560 (lv_at hl 0 rfl) ?_
                refine lv_iconst (v := 1) hx hb dL_law_562 (by decide) ?_
                obtain ⟨⟨r_27, σW_28⟩, h_29, hF⟩ := q_cl_s hF
                try dsimp only at hF
                refine gcV_i (As := [.int v10_19, .int 1]) (rest := []) (ci := 6) (q := (RX6, TX6, 8)) F hK hN hP hD hS hA (m_X6_keep l g H.size qX AX AW (.ref qH) σW_22 AC σC_15 v10_19 (1 : Int32) r_27 σW_28 h_29) gL_law_X6_keep kX6_keep rfl rfl rfl rfl ⟨(Nat.le_of_ble_eq_true rfl), (Nat.le_of_ble_eq_true rfl)⟩ [0, 20, 21, 22, 1, 2, 3, 4, 5, 6, 7, 8] [9, 10, 11, 12, 13, 14, 15, 16, 17, 18, 19, 23, 24, 25, 26, 27, 28, 29, 30, 31] rfl rfl rfl (by decide) rfl rfl rfl rfl rfl hl.1 (Nat.le_of_ble_eq_true rfl) dL_law_563 ⟨(Nat.le_of_ble_eq_true rfl), (Nat.le_of_ble_eq_true rfl)⟩ (fun r_w u_w H locs hw hP hD hS => ?_)
                have hP : va_P g.1 vwCl ([((AX 1), .inr (1, oC AD (σD_14 99))), aI g (AD 0) 121 (σD_14 0), aI g (AD 1) 10 (σD_14 1), aI g (AD 2) 10 (σD_14 2), aI g (AD 3) 10 (σD_14 3), aI g (AD 4) 10 (σD_14 4), aI g (AD 5) 8 (σD_14 5), aI g (AD 6) 8 (σD_14 6), ((AX 3), .inr (3, oX3 AP (σP_13 99))), aI g (AP 0) 60 (σP_13 0), ((AX 4), .inr (2, oX2 (σN_12 99))), ((AX 6), .inr (4, oX4 AY (σY 99))), aI g (AY 0) 410 (σY 0), aI g (AY 1) 50 (σY 1), aI g (AY 2) 10 (σY 2), ((AX 7), .inr (0, oX0 AK)), aJ g (AK 0) 11 (ℓK 0), aJ g (AK 1) 11 (ℓK 1), aI g (AK 2) 61 (σK 2), aI g qH 10240 (σH 0), (qX, .inr (6, oX6 AX)), ((AX 5), .inr (5, oX5 AW (.ref qH))), aI g (AW 0) 121 (σW_28 0), aI g (AW 1) 11 (σW_28 1), ((AX 0), .inr (1, oC AC (σC_15 99))), aI g (AC 0) 121 (σC_15 0), aI g (AC 1) 10 (σC_15 1), aI g (AC 2) 10 (σC_15 2), aI g (AC 3) 10 (σC_15 3), aI g (AC 4) 10 (σC_15 4), aI g (AC 5) 8 (σC_15 5), aI g (AC 6) 8 (σC_15 6)]) H := hP
                have hD : va_D Z ([((AX 1), .inr (1, oC AD (σD_14 99))), aI g (AD 0) 121 (σD_14 0), aI g (AD 1) 10 (σD_14 1), aI g (AD 2) 10 (σD_14 2), aI g (AD 3) 10 (σD_14 3), aI g (AD 4) 10 (σD_14 4), aI g (AD 5) 8 (σD_14 5), aI g (AD 6) 8 (σD_14 6), ((AX 3), .inr (3, oX3 AP (σP_13 99))), aI g (AP 0) 60 (σP_13 0), ((AX 4), .inr (2, oX2 (σN_12 99))), ((AX 6), .inr (4, oX4 AY (σY 99))), aI g (AY 0) 410 (σY 0), aI g (AY 1) 50 (σY 1), aI g (AY 2) 10 (σY 2), ((AX 7), .inr (0, oX0 AK)), aJ g (AK 0) 11 (ℓK 0), aJ g (AK 1) 11 (ℓK 1), aI g (AK 2) 61 (σK 2), aI g qH 10240 (σH 0), (qX, .inr (6, oX6 AX)), ((AX 5), .inr (5, oX5 AW (.ref qH))), aI g (AW 0) 121 (σW_28 0), aI g (AW 1) 11 (σW_28 1), ((AX 0), .inr (1, oC AC (σC_15 99))), aI g (AC 0) 121 (σC_15 0), aI g (AC 1) 10 (σC_15 1), aI g (AC 2) 10 (σC_15 2), aI g (AC 3) 10 (σC_15 3), aI g (AC 4) 10 (σC_15 4), aI g (AC 5) 8 (σC_15 5), aI g (AC 6) 8 (σC_15 6)]) := hD
                have hP : va_P g.1 vwCl (wX6 qX AX ++ wX1 g (AX 0) AC σC_15 ++ wX1 g (AX 1) AD σD_14 ++ wX3 g (AX 3) AP σP_13 ++ wX2 (AX 4) σN_12 ++ wX5 g (AX 5) AW (.ref qH) σW_28 ++ wX4 g (AX 6) AY σY ++ wX0 g (AX 7) AK σK ℓK ++ wH g qH σH) H := hP.sub [20, 24, 25, 26, 27, 28, 29, 30, 31, 0, 1, 2, 3, 4, 5, 6, 7, 8, 9, 10, 21, 22, 23, 11, 12, 13, 14, 15, 16, 17, 18, 19] rfl
                have hD : va_D Z (wX6 qX AX ++ wX1 g (AX 0) AC σC_15 ++ wX1 g (AX 1) AD σD_14 ++ wX3 g (AX 3) AP σP_13 ++ wX2 (AX 4) σN_12 ++ wX5 g (AX 5) AW (.ref qH) σW_28 ++ wX4 g (AX 6) AY σY ++ wX0 g (AX 7) AK σK ℓK ++ wH g qH σH) := hD.sub [20, 24, 25, 26, 27, 28, 29, 30, 31, 0, 1, 2, 3, 4, 5, 6, 7, 8, 9, 10, 21, 22, 23, 11, 12, 13, 14, 15, 16, 17, 18, 19] (by decide) rfl
                obtain rfl : r_27 = r_w := hw.symm
                refine lv_iload hx hb dL_law_566 (lv_at hl 0 rfl) ?_
                refine lv_if_ne (tgt := 576) hx hb dL_law_568 (by decide) (fun c_31 => ?_) (fun c_31 => ?_)
                · have hF := q_if_f c_31 hF
                  refine lv_iconst (v := 1) hx hb dL_law_576 (by decide) ?_
                  refine lv_icmp_eq (tgt := 582) hx hb dL_law_577 (by decide) (fun c_32 => ?_) (fun c_32 => ?_)
                  · have hF := q_if_t c_32 hF
                    refine lv_iinc (v := v10_19 + 1) (lv' := [(10, .int (v10_19 + 1)), (0, .ref b), (1, .ref qX), (2, .int v2), (3, .int v3), (4, .int v4), (7, .int v7), (9, .int v9)]) hx hb dL_law_582 hl (k := 0) rfl rfl (by decide) rfl (fun ls hl => ?_)
                    refine lv_goto (tgt := 531) hx hb dL_law_585 (by decide) ?_
                    exact ag (v10_19 + 1, σW_28) hF _ _ _ hP hD hS (lv_sub hl [0, 1, 2, 3, 4, 5, 6, 7] rfl)
                  · have hF := q_if_f c_32 hF
                    refine lv_iconst (v := 0) hx hb dL_law_580 (by decide) ?_
                    exact absurd hF (by decide)
                · have hF := q_if_t (by first | exact c_31 | exact Classical.not_not.mp c_31) hF
                  refine lv_bipush (v := (-6)) hx hb dL_law_571 (by decide) ?_
                  refine lv_goto (tgt := 577) hx hb dL_law_573 (by decide) ?_
                  refine lv_icmp_eq (tgt := 582) hx hb dL_law_577 (by decide) (fun c_33 => ?_) (fun c_33 => ?_)
                  · have hF := q_if_t c_33 hF
                    refine lv_iinc (v := v10_19 + 1) (lv' := [(10, .int (v10_19 + 1)), (0, .ref b), (1, .ref qX), (2, .int v2), (3, .int v3), (4, .int v4), (7, .int v7), (9, .int v9)]) hx hb dL_law_582 hl (k := 0) rfl rfl (by decide) rfl (fun ls hl => ?_)
                    refine lv_goto (tgt := 531) hx hb dL_law_585 (by decide) ?_
                    exact ag (v10_19 + 1, σW_28) hF _ _ _ hP hD hS (lv_sub hl [0, 1, 2, 3, 4, 5, 6, 7] rfl)
                  · have hF := q_if_f c_33 hF
                    refine lv_iconst (v := 0) hx hb dL_law_580 (by decide) ?_
                    exact absurd hF (by decide)
            · have hF := q_if_t (by first | exact c_25 | exact Classical.not_not.mp c_25) hF
              refine lv_bipush (v := (-6)) hx hb dL_law_550 (by decide) ?_
              refine lv_goto (tgt := 556) hx hb dL_law_552 (by decide) ?_
              refine lv_icmp_ne (tgt := 580) hx hb dL_law_556 (by decide) (fun c_34 => ?_) (fun c_34 => ?_)
              · have hF := q_if_f c_34 hF
                refine lv_iconst (v := 0) hx hb dL_law_580 (by decide) ?_
                exact absurd hF (by decide)
              · have hF := q_if_t (by first | exact c_34 | exact Classical.not_not.mp c_34) hF
                refine lv_aload_n hx hb dL_law_559 rfl (lv_at hl 2 rfl) ?_
                refine lv_iload hx hb dL_law_560 (lv_at hl 0 rfl) ?_
                refine lv_iconst (v := 1) hx hb dL_law_562 (by decide) ?_
                obtain ⟨⟨r_35, σW_36⟩, h_37, hF⟩ := q_cl_s hF
                try dsimp only at hF
                refine gcV_i (As := [.int v10_19, .int 1]) (rest := []) (ci := 6) (q := (RX6, TX6, 8)) F hK hN hP hD hS hA (m_X6_keep l g H.size qX AX AW (.ref qH) σW_22 AC σC_15 v10_19 (1 : Int32) r_35 σW_36 h_37) gL_law_X6_keep kX6_keep rfl rfl rfl rfl ⟨(Nat.le_of_ble_eq_true rfl), (Nat.le_of_ble_eq_true rfl)⟩ [0, 20, 21, 22, 1, 2, 3, 4, 5, 6, 7, 8] [9, 10, 11, 12, 13, 14, 15, 16, 17, 18, 19, 23, 24, 25, 26, 27, 28, 29, 30, 31] rfl rfl rfl (by decide) rfl rfl rfl rfl rfl hl.1 (Nat.le_of_ble_eq_true rfl) dL_law_563 ⟨(Nat.le_of_ble_eq_true rfl), (Nat.le_of_ble_eq_true rfl)⟩ (fun r_w u_w H locs hw hP hD hS => ?_)
                have hP : va_P g.1 vwCl ([((AX 1), .inr (1, oC AD (σD_14 99))), aI g (AD 0) 121 (σD_14 0), aI g (AD 1) 10 (σD_14 1), aI g (AD 2) 10 (σD_14 2), aI g (AD 3) 10 (σD_14 3), aI g (AD 4) 10 (σD_14 4), aI g (AD 5) 8 (σD_14 5), aI g (AD 6) 8 (σD_14 6), ((AX 3), .inr (3, oX3 AP (σP_13 99))), aI g (AP 0) 60 (σP_13 0), ((AX 4), .inr (2, oX2 (σN_12 99))), ((AX 6), .inr (4, oX4 AY (σY 99))), aI g (AY 0) 410 (σY 0), aI g (AY 1) 50 (σY 1), aI g (AY 2) 10 (σY 2), ((AX 7), .inr (0, oX0 AK)), aJ g (AK 0) 11 (ℓK 0), aJ g (AK 1) 11 (ℓK 1), aI g (AK 2) 61 (σK 2), aI g qH 10240 (σH 0), (qX, .inr (6, oX6 AX)), ((AX 5), .inr (5, oX5 AW (.ref qH))), aI g (AW 0) 121 (σW_36 0), aI g (AW 1) 11 (σW_36 1), ((AX 0), .inr (1, oC AC (σC_15 99))), aI g (AC 0) 121 (σC_15 0), aI g (AC 1) 10 (σC_15 1), aI g (AC 2) 10 (σC_15 2), aI g (AC 3) 10 (σC_15 3), aI g (AC 4) 10 (σC_15 4), aI g (AC 5) 8 (σC_15 5), aI g (AC 6) 8 (σC_15 6)]) H := hP
                have hD : va_D Z ([((AX 1), .inr (1, oC AD (σD_14 99))), aI g (AD 0) 121 (σD_14 0), aI g (AD 1) 10 (σD_14 1), aI g (AD 2) 10 (σD_14 2), aI g (AD 3) 10 (σD_14 3), aI g (AD 4) 10 (σD_14 4), aI g (AD 5) 8 (σD_14 5), aI g (AD 6) 8 (σD_14 6), ((AX 3), .inr (3, oX3 AP (σP_13 99))), aI g (AP 0) 60 (σP_13 0), ((AX 4), .inr (2, oX2 (σN_12 99))), ((AX 6), .inr (4, oX4 AY (σY 99))), aI g (AY 0) 410 (σY 0), aI g (AY 1) 50 (σY 1), aI g (AY 2) 10 (σY 2), ((AX 7), .inr (0, oX0 AK)), aJ g (AK 0) 11 (ℓK 0), aJ g (AK 1) 11 (ℓK 1), aI g (AK 2) 61 (σK 2), aI g qH 10240 (σH 0), (qX, .inr (6, oX6 AX)), ((AX 5), .inr (5, oX5 AW (.ref qH))), aI g (AW 0) 121 (σW_36 0), aI g (AW 1) 11 (σW_36 1), ((AX 0), .inr (1, oC AC (σC_15 99))), aI g (AC 0) 121 (σC_15 0), aI g (AC 1) 10 (σC_15 1), aI g (AC 2) 10 (σC_15 2), aI g (AC 3) 10 (σC_15 3), aI g (AC 4) 10 (σC_15 4), aI g (AC 5) 8 (σC_15 5), aI g (AC 6) 8 (σC_15 6)]) := hD
                have hP : va_P g.1 vwCl (wX6 qX AX ++ wX1 g (AX 0) AC σC_15 ++ wX1 g (AX 1) AD σD_14 ++ wX3 g (AX 3) AP σP_13 ++ wX2 (AX 4) σN_12 ++ wX5 g (AX 5) AW (.ref qH) σW_36 ++ wX4 g (AX 6) AY σY ++ wX0 g (AX 7) AK σK ℓK ++ wH g qH σH) H := hP.sub [20, 24, 25, 26, 27, 28, 29, 30, 31, 0, 1, 2, 3, 4, 5, 6, 7, 8, 9, 10, 21, 22, 23, 11, 12, 13, 14, 15, 16, 17, 18, 19] rfl
                have hD : va_D Z (wX6 qX AX ++ wX1 g (AX 0) AC σC_15 ++ wX1 g (AX 1) AD σD_14 ++ wX3 g (AX 3) AP σP_13 ++ wX2 (AX 4) σN_12 ++ wX5 g (AX 5) AW (.ref qH) σW_36 ++ wX4 g (AX 6) AY σY ++ wX0 g (AX 7) AK σK ℓK ++ wH g qH σH) := hD.sub [20, 24, 25, 26, 27, 28, 29, 30, 31, 0, 1, 2, 3, 4, 5, 6, 7, 8, 9, 10, 21, 22, 23, 11, 12, 13, 14, 15, 16, 17, 18, 19] (by decide) rfl
                obtain rfl : r_35 = r_w := hw.symm
                refine lv_iload hx hb dL_law_566 (lv_at hl 0 rfl) ?_
                refine lv_if_ne (tgt := 576) hx hb dL_law_568 (by decide) (fun c_39 => ?_) (fun c_39 => ?_)
                · have hF := q_if_f c_39 hF
                  refine lv_iconst (v := 1) hx hb dL_law_576 (by decide) ?_
                  refine lv_icmp_eq (tgt := 582) hx hb dL_law_577 (by decide) (fun c_40 => ?_) (fun c_40 => ?_)
                  · have hF := q_if_t c_40 hF
                    refine lv_iinc (v := v10_19 + 1) (lv' := [(10, .int (v10_19 + 1)), (0, .ref b), (1, .ref qX), (2, .int v2), (3, .int v3), (4, .int v4), (7, .int v7), (9, .int v9)]) hx hb dL_law_582 hl (k := 0) rfl rfl (by decide) rfl (fun ls hl => ?_)
                    refine lv_goto (tgt := 531) hx hb dL_law_585 (by decide) ?_
                    exact ag (v10_19 + 1, σW_36) hF _ _ _ hP hD hS (lv_sub hl [0, 1, 2, 3, 4, 5, 6, 7] rfl)
                  · have hF := q_if_f c_40 hF
                    refine lv_iconst (v := 0) hx hb dL_law_580 (by decide) ?_
                    exact absurd hF (by decide)
                · have hF := q_if_t (by first | exact c_39 | exact Classical.not_not.mp c_39) hF
                  refine lv_bipush (v := (-6)) hx hb dL_law_571 (by decide) ?_
                  refine lv_goto (tgt := 577) hx hb dL_law_573 (by decide) ?_
                  refine lv_icmp_eq (tgt := 582) hx hb dL_law_577 (by decide) (fun c_41 => ?_) (fun c_41 => ?_)
                  · have hF := q_if_t c_41 hF
                    refine lv_iinc (v := v10_19 + 1) (lv' := [(10, .int (v10_19 + 1)), (0, .ref b), (1, .ref qX), (2, .int v2), (3, .int v3), (4, .int v4), (7, .int v7), (9, .int v9)]) hx hb dL_law_582 hl (k := 0) rfl rfl (by decide) rfl (fun ls hl => ?_)
                    refine lv_goto (tgt := 531) hx hb dL_law_585 (by decide) ?_
                    exact ag (v10_19 + 1, σW_36) hF _ _ _ hP hD hS (lv_sub hl [0, 1, 2, 3, 4, 5, 6, 7] rfl)
                  · have hF := q_if_f c_41 hF
                    refine lv_iconst (v := 0) hx hb dL_law_580 (by decide) ?_
                    exact absurd hF (by decide)
      · have hF := q_if_f c_18 hF
        refine lv_iconst (v := 0) hx hb dL_law_526 (by decide) ?_
        exact absurd hF (by decide)
