set_option maxHeartbeats 8000000 in
set_option maxRecDepth 100000 in
theorem gs_321 {p : Program} {l : Launch} {e : Env} {s : State} {m : MethodId} {below : List Frame} {meth : Method} {c : Code} {b : Nat} {g : GT} {Z : Nat → Prop} {H : Heap} {locs : List Loc} {ls : Array Slot} {qX : Nat} {AX AC AD AP AW AY AK : Nat → Nat} {L : Nat} {xs : Nat → Int32} {σC : qS} {σD : qS} {σP : qS} {σN : qS} {σW : qS} {σY : qS} {σK : qS} {ℓK : qL} {v2 : Int32} {v3 : Int32} {v4 : Int32} {v5 : Int32} {v6 : Int32} {v7 : Int32} {v8 : Int32}
    (hx : p.tables.exec = Jvm.exec) (hb : c.code = cL_law) (hr : meth.sig.returnType = ret) (hlocks : meth.locks = false) (F : CallFix p m c cL_law 30 s #[Value.ref b] wsL_law RL) (hK : va_K g.1 vwCl (tyL g) s) (hN : NW s) (hA : ∀ q : Nat, s.heap.size ≤ q → Z q) (hZ : Z = fun q => s.heap.size ≤ q) (hbA : ¬ Z b) (hX : va_X b L xs s s.heap) (hbl : b < s.heap.size) (hF : g_321 L xs σC σD σP σN σW σY σK ℓK v2 v3 v4 v5 v6 v7 v8 = some 1)
    (hP : va_P g.1 vwCl (wX6 qX AX ++ wX1 g (AX 0) AC σC ++ wX1 g (AX 1) AD σD ++ wX3 g (AX 3) AP σP ++ wX2 (AX 4) σN ++ wX5 g (AX 5) AW .null σW ++ wX4 g (AX 6) AY σY ++ wX0 g (AX 7) AK σK ℓK) H) (hD : va_D Z (wX6 qX AX ++ wX1 g (AX 0) AC σC ++ wX1 g (AX 1) AD σD ++ wX3 g (AX 3) AP σP ++ wX2 (AX 4) σN ++ wX5 g (AX 5) AW .null σW ++ wX4 g (AX 6) AY σY ++ wX0 g (AX 7) AK σK ℓK)) (hS : va_S Z s.heap H locs) (hl : lv_has ls 30 [(0, .ref b), (1, .ref qX), (2, .int v2), (3, .int v3), (4, .int v4), (5, .int v5), (6, .int v6), (7, .int v7), (8, .int v8)]) : W p l e room_1 s m #[Value.ref b] below meth c H locs 100 20000 (lw_Z below #[Value.ref b] s) (F0 m 321 ls []) := by
  have hts := F.2.2.2.2
  have hown : s.vm.findClass RL = some m.cls := F.2.2.2.1
  dsimp only [g_321] at hF
  refine lv_iload hx hb dL_law_321 (lv_at hl 7 rfl) ?_
  obtain ⟨r_1, h_2, hF⟩ := q_cl_s hF
  refine gcP (As := [.int v7]) (rest := []) F (m_L_bits l v7 r_1 h_2) gL_law_L_bits kL_bits rfl rfl rfl ⟨(Nat.le_of_ble_eq_true rfl), (Nat.le_of_ble_eq_true rfl)⟩ rfl rfl hl.1 (Nat.le_of_ble_eq_true rfl) dL_law_323 ⟨(Nat.le_of_ble_eq_true rfl), (Nat.le_of_ble_eq_true rfl)⟩ ?_
  refine lv_istore (lv' := [(9, .int r_1), (0, .ref b), (1, .ref qX), (2, .int v2), (3, .int v3), (4, .int v4), (5, .int v5), (6, .int v6), (7, .int v7), (8, .int v8)]) hx hb dL_law_326 hl (by decide) rfl (fun ls hl => ?_)
  refine lv_aload_n hx hb dL_law_328 rfl (lv_at hl 2 rfl) ?_
  refine lv_bipush (v := 10) hx hb dL_law_329 (by decide) ?_
  refine lv_iload hx hb dL_law_331 (lv_at hl 5 rfl) ?_
  refine lv_imul hx hb dL_law_333 ?_
  refine lv_iconst (v := 0) hx hb dL_law_334 (by decide) ?_
  obtain ⟨⟨r_3, σW_4, σH_5⟩, h_6, hF⟩ := q_cl_s hF
  try dsimp only at hF
  refine gcV_i (As := [.int ((10 : Int32) * v4), .int 0]) (rest := []) (ci := 6) (q := (RX6, TX6, 8)) F hK hN hP hD hS hA (m_X6_round_n l g H.size qX AX AW σW AC σC ((10 : Int32) * v4) (0 : Int32) r_3 σW_4 σH_5 h_6) gL_law_X6_round kX6_round rfl rfl rfl rfl ⟨(Nat.le_of_ble_eq_true rfl), (Nat.le_of_ble_eq_true rfl)⟩ [0, 20, 21, 22, 1, 2, 3, 4, 5, 6, 7, 8] [9, 10, 11, 12, 13, 14, 15, 16, 17, 18, 19, 23, 24, 25, 26, 27, 28, 29, 30] rfl rfl rfl (by decide) rfl rfl rfl rfl rfl hl.1 (Nat.le_of_ble_eq_true rfl) dL_law_335 ⟨(Nat.le_of_ble_eq_true rfl), (Nat.le_of_ble_eq_true rfl)⟩ (fun r_w u_w H locs hw hP hD hS => ?_)
  obtain ⟨q_8, rfl⟩ : ∃ z, z = u_w := ⟨_, rfl⟩
  refine W.widen (k := 101) (n := 30240) (by decide) (by decide) ?_
  have hP : va_P g.1 vwCl ([((AX 1), .inr (1, oC AD (σD 99))), aI g (AD 0) 121 (σD 0), aI g (AD 1) 10 (σD 1), aI g (AD 2) 10 (σD 2), aI g (AD 3) 10 (σD 3), aI g (AD 4) 10 (σD 4), aI g (AD 5) 8 (σD 5), aI g (AD 6) 8 (σD 6), ((AX 3), .inr (3, oX3 AP (σP 99))), aI g (AP 0) 60 (σP 0), ((AX 4), .inr (2, oX2 (σN 99))), ((AX 6), .inr (4, oX4 AY (σY 99))), aI g (AY 0) 410 (σY 0), aI g (AY 1) 50 (σY 1), aI g (AY 2) 10 (σY 2), ((AX 7), .inr (0, oX0 AK)), aJ g (AK 0) 11 (ℓK 0), aJ g (AK 1) 11 (ℓK 1), aI g (AK 2) 61 (σK 2), (qX, .inr (6, oX6 AX)), ((AX 5), .inr (5, oX5 AW (.ref q_8))), aI g (AW 0) 121 (σW_4 0), aI g (AW 1) 11 (σW_4 1), ((AX 0), .inr (1, oC AC (σC 99))), aI g (AC 0) 121 (σC 0), aI g (AC 1) 10 (σC 1), aI g (AC 2) 10 (σC 2), aI g (AC 3) 10 (σC 3), aI g (AC 4) 10 (σC 4), aI g (AC 5) 8 (σC 5), aI g (AC 6) 8 (σC 6), aI g q_8 10240 (σH_5 0)]) H := hP
  have hD : va_D Z ([((AX 1), .inr (1, oC AD (σD 99))), aI g (AD 0) 121 (σD 0), aI g (AD 1) 10 (σD 1), aI g (AD 2) 10 (σD 2), aI g (AD 3) 10 (σD 3), aI g (AD 4) 10 (σD 4), aI g (AD 5) 8 (σD 5), aI g (AD 6) 8 (σD 6), ((AX 3), .inr (3, oX3 AP (σP 99))), aI g (AP 0) 60 (σP 0), ((AX 4), .inr (2, oX2 (σN 99))), ((AX 6), .inr (4, oX4 AY (σY 99))), aI g (AY 0) 410 (σY 0), aI g (AY 1) 50 (σY 1), aI g (AY 2) 10 (σY 2), ((AX 7), .inr (0, oX0 AK)), aJ g (AK 0) 11 (ℓK 0), aJ g (AK 1) 11 (ℓK 1), aI g (AK 2) 61 (σK 2), (qX, .inr (6, oX6 AX)), ((AX 5), .inr (5, oX5 AW (.ref q_8))), aI g (AW 0) 121 (σW_4 0), aI g (AW 1) 11 (σW_4 1), ((AX 0), .inr (1, oC AC (σC 99))), aI g (AC 0) 121 (σC 0), aI g (AC 1) 10 (σC 1), aI g (AC 2) 10 (σC 2), aI g (AC 3) 10 (σC 3), aI g (AC 4) 10 (σC 4), aI g (AC 5) 8 (σC 5), aI g (AC 6) 8 (σC 6), aI g q_8 10240 (σH_5 0)]) := hD
  have hP : va_P g.1 vwCl (wX6 qX AX ++ wX1 g (AX 0) AC σC ++ wX1 g (AX 1) AD σD ++ wX3 g (AX 3) AP σP ++ wX2 (AX 4) σN ++ wX5 g (AX 5) AW (.ref q_8) σW_4 ++ wX4 g (AX 6) AY σY ++ wX0 g (AX 7) AK σK ℓK ++ wH g q_8 σH_5) H := hP.sub [19, 23, 24, 25, 26, 27, 28, 29, 30, 0, 1, 2, 3, 4, 5, 6, 7, 8, 9, 10, 20, 21, 22, 11, 12, 13, 14, 15, 16, 17, 18, 31] rfl
  have hD : va_D Z (wX6 qX AX ++ wX1 g (AX 0) AC σC ++ wX1 g (AX 1) AD σD ++ wX3 g (AX 3) AP σP ++ wX2 (AX 4) σN ++ wX5 g (AX 5) AW (.ref q_8) σW_4 ++ wX4 g (AX 6) AY σY ++ wX0 g (AX 7) AK σK ℓK ++ wH g q_8 σH_5) := hD.sub [19, 23, 24, 25, 26, 27, 28, 29, 30, 0, 1, 2, 3, 4, 5, 6, 7, 8, 9, 10, 20, 21, 22, 11, 12, 13, 14, 15, 16, 17, 18, 31] (by decide) rfl
  obtain rfl : r_3 = r_w := hw.symm
  refine lv_iload hx hb dL_law_338 (lv_at hl 0 rfl) ?_
  refine lv_icmp_lt (tgt := 373) hx hb dL_law_340 (by decide) (fun c_9 => ?_) (fun c_9 => ?_)
  · have hF := q_if_t c_9 hF
    refine lv_iconst (v := 0) hx hb dL_law_373 (by decide) ?_
    exact absurd hF (by decide)
  · have hF := q_if_f c_9 hF
    refine lv_aload_n hx hb dL_law_343 rfl (lv_at hl 2 rfl) ?_
    refine lv_bipush (v := 10) hx hb dL_law_344 (by decide) ?_
    refine lv_bipush (v := 9) hx hb dL_law_346 (by decide) ?_
    refine lv_iconst (v := 0) hx hb dL_law_348 (by decide) ?_
    obtain ⟨⟨r_10, σW_11⟩, h_12, hF⟩ := q_cl_s hF
    try dsimp only at hF
    refine gcV_i (As := [.int 10, .int 9, .int 0]) (rest := []) (ci := 6) (q := (RX6, TX6, 8)) F hK hN hP hD hS hA (m_X6_near l g H.size qX AX AW (.ref q_8) σW_4 AC σC (10 : Int32) (9 : Int32) (0 : Int32) r_10 σW_11 h_12) gL_law_X6_near kX6_near rfl rfl rfl rfl ⟨(Nat.le_of_ble_eq_true rfl), (Nat.le_of_ble_eq_true rfl)⟩ [0, 20, 21, 22, 1, 2, 3, 4, 5, 6, 7, 8] [9, 10, 11, 12, 13, 14, 15, 16, 17, 18, 19, 23, 24, 25, 26, 27, 28, 29, 30, 31] rfl rfl rfl (by decide) rfl rfl rfl rfl rfl hl.1 (Nat.le_of_ble_eq_true rfl) dL_law_349 ⟨(Nat.le_of_ble_eq_true rfl), (Nat.le_of_ble_eq_true rfl)⟩ (fun r_w u_w H locs hw hP hD hS => ?_)
    have hP : va_P g.1 vwCl ([((AX 1), .inr (1, oC AD (σD 99))), aI g (AD 0) 121 (σD 0), aI g (AD 1) 10 (σD 1), aI g (AD 2) 10 (σD 2), aI g (AD 3) 10 (σD 3), aI g (AD 4) 10 (σD 4), aI g (AD 5) 8 (σD 5), aI g (AD 6) 8 (σD 6), ((AX 3), .inr (3, oX3 AP (σP 99))), aI g (AP 0) 60 (σP 0), ((AX 4), .inr (2, oX2 (σN 99))), ((AX 6), .inr (4, oX4 AY (σY 99))), aI g (AY 0) 410 (σY 0), aI g (AY 1) 50 (σY 1), aI g (AY 2) 10 (σY 2), ((AX 7), .inr (0, oX0 AK)), aJ g (AK 0) 11 (ℓK 0), aJ g (AK 1) 11 (ℓK 1), aI g (AK 2) 61 (σK 2), aI g q_8 10240 (σH_5 0), (qX, .inr (6, oX6 AX)), ((AX 5), .inr (5, oX5 AW (.ref q_8))), aI g (AW 0) 121 (σW_11 0), aI g (AW 1) 11 (σW_11 1), ((AX 0), .inr (1, oC AC (σC 99))), aI g (AC 0) 121 (σC 0), aI g (AC 1) 10 (σC 1), aI g (AC 2) 10 (σC 2), aI g (AC 3) 10 (σC 3), aI g (AC 4) 10 (σC 4), aI g (AC 5) 8 (σC 5), aI g (AC 6) 8 (σC 6)]) H := hP
    have hD : va_D Z ([((AX 1), .inr (1, oC AD (σD 99))), aI g (AD 0) 121 (σD 0), aI g (AD 1) 10 (σD 1), aI g (AD 2) 10 (σD 2), aI g (AD 3) 10 (σD 3), aI g (AD 4) 10 (σD 4), aI g (AD 5) 8 (σD 5), aI g (AD 6) 8 (σD 6), ((AX 3), .inr (3, oX3 AP (σP 99))), aI g (AP 0) 60 (σP 0), ((AX 4), .inr (2, oX2 (σN 99))), ((AX 6), .inr (4, oX4 AY (σY 99))), aI g (AY 0) 410 (σY 0), aI g (AY 1) 50 (σY 1), aI g (AY 2) 10 (σY 2), ((AX 7), .inr (0, oX0 AK)), aJ g (AK 0) 11 (ℓK 0), aJ g (AK 1) 11 (ℓK 1), aI g (AK 2) 61 (σK 2), aI g q_8 10240 (σH_5 0), (qX, .inr (6, oX6 AX)), ((AX 5), .inr (5, oX5 AW (.ref q_8))), aI g (AW 0) 121 (σW_11 0), aI g (AW 1) 11 (σW_11 1), ((AX 0), .inr (1, oC AC (σC 99))), aI g (AC 0) 121 (σC 0), aI g (AC 1) 10 (σC 1), aI g (AC 2) 10 (σC 2), aI g (AC 3) 10 (σC 3), aI g (AC 4) 10 (σC 4), aI g (AC 5) 8 (σC 5), aI g (AC 6) 8 (σC 6)]) := hD
    have hP : va_P g.1 vwCl (wX6 qX AX ++ wX1 g (AX 0) AC σC ++ wX1 g (AX 1) AD σD ++ wX3 g (AX 3) AP σP ++ wX2 (AX 4) σN ++ wX5 g (AX 5) AW (.ref q_8) σW_11 ++ wX4 g (AX 6) AY σY ++ wX0 g (AX 7) AK σK ℓK ++ wH g q_8 σH_5) H := hP.sub [20, 24, 25, 26, 27, 28, 29, 30, 31, 0, 1, 2, 3, 4, 5, 6, 7, 8, 9, 10, 21, 22, 23, 11, 12, 13, 14, 15, 16, 17, 18, 19] rfl
    have hD : va_D Z (wX6 qX AX ++ wX1 g (AX 0) AC σC ++ wX1 g (AX 1) AD σD ++ wX3 g (AX 3) AP σP ++ wX2 (AX 4) σN ++ wX5 g (AX 5) AW (.ref q_8) σW_11 ++ wX4 g (AX 6) AY σY ++ wX0 g (AX 7) AK σK ℓK ++ wH g q_8 σH_5) := hD.sub [20, 24, 25, 26, 27, 28, 29, 30, 31, 0, 1, 2, 3, 4, 5, 6, 7, 8, 9, 10, 21, 22, 23, 11, 12, 13, 14, 15, 16, 17, 18, 19] (by decide) rfl
    obtain rfl : r_10 = r_w := hw.symm
    refine lv_bipush (v := 10) hx hb dL_law_352 (by decide) ?_
    refine lv_iload_n hx hb dL_law_354 rfl (lv_at hl 3 rfl) ?_
    refine lv_imul hx hb dL_law_355 ?_
    refine lv_icmp_ne (tgt := 373) hx hb dL_law_356 (by decide) (fun c_14 => ?_) (fun c_14 => ?_)
    · have hF := q_if_f c_14 hF
      refine lv_iconst (v := 0) hx hb dL_law_373 (by decide) ?_
      exact absurd hF (by decide)
    · have hF := q_if_t (by first | exact c_14 | exact Classical.not_not.mp c_14) hF
      refine lv_aload_n hx hb dL_law_359 rfl (lv_at hl 2 rfl) ?_
      refine lv_bipush (v := 9) hx hb dL_law_360 (by decide) ?_
      refine lv_bipush (v := 10) hx hb dL_law_362 (by decide) ?_
      refine lv_iconst (v := 1) hx hb dL_law_364 (by decide) ?_
      obtain ⟨⟨r_15, σW_16⟩, h_17, hF⟩ := q_cl_s hF
      try dsimp only at hF
      refine gcV_i (As := [.int 9, .int 10, .int 1]) (rest := []) (ci := 6) (q := (RX6, TX6, 8)) F hK hN hP hD hS hA (m_X6_near l g H.size qX AX AW (.ref q_8) σW_11 AC σC (9 : Int32) (10 : Int32) (1 : Int32) r_15 σW_16 h_17) gL_law_X6_near kX6_near rfl rfl rfl rfl ⟨(Nat.le_of_ble_eq_true rfl), (Nat.le_of_ble_eq_true rfl)⟩ [0, 20, 21, 22, 1, 2, 3, 4, 5, 6, 7, 8] [9, 10, 11, 12, 13, 14, 15, 16, 17, 18, 19, 23, 24, 25, 26, 27, 28, 29, 30, 31] rfl rfl rfl (by decide) rfl rfl rfl rfl rfl hl.1 (Nat.le_of_ble_eq_true rfl) dL_law_365 ⟨(Nat.le_of_ble_eq_true rfl), (Nat.le_of_ble_eq_true rfl)⟩ (fun r_w u_w H locs hw hP hD hS => ?_)
      have hP : va_P g.1 vwCl ([((AX 1), .inr (1, oC AD (σD 99))), aI g (AD 0) 121 (σD 0), aI g (AD 1) 10 (σD 1), aI g (AD 2) 10 (σD 2), aI g (AD 3) 10 (σD 3), aI g (AD 4) 10 (σD 4), aI g (AD 5) 8 (σD 5), aI g (AD 6) 8 (σD 6), ((AX 3), .inr (3, oX3 AP (σP 99))), aI g (AP 0) 60 (σP 0), ((AX 4), .inr (2, oX2 (σN 99))), ((AX 6), .inr (4, oX4 AY (σY 99))), aI g (AY 0) 410 (σY 0), aI g (AY 1) 50 (σY 1), aI g (AY 2) 10 (σY 2), ((AX 7), .inr (0, oX0 AK)), aJ g (AK 0) 11 (ℓK 0), aJ g (AK 1) 11 (ℓK 1), aI g (AK 2) 61 (σK 2), aI g q_8 10240 (σH_5 0), (qX, .inr (6, oX6 AX)), ((AX 5), .inr (5, oX5 AW (.ref q_8))), aI g (AW 0) 121 (σW_16 0), aI g (AW 1) 11 (σW_16 1), ((AX 0), .inr (1, oC AC (σC 99))), aI g (AC 0) 121 (σC 0), aI g (AC 1) 10 (σC 1), aI g (AC 2) 10 (σC 2), aI g (AC 3) 10 (σC 3), aI g (AC 4) 10 (σC 4), aI g (AC 5) 8 (σC 5), aI g (AC 6) 8 (σC 6)]) H := hP
      have hD : va_D Z ([((AX 1), .inr (1, oC AD (σD 99))), aI g (AD 0) 121 (σD 0), aI g (AD 1) 10 (σD 1), aI g (AD 2) 10 (σD 2), aI g (AD 3) 10 (σD 3), aI g (AD 4) 10 (σD 4), aI g (AD 5) 8 (σD 5), aI g (AD 6) 8 (σD 6), ((AX 3), .inr (3, oX3 AP (σP 99))), aI g (AP 0) 60 (σP 0), ((AX 4), .inr (2, oX2 (σN 99))), ((AX 6), .inr (4, oX4 AY (σY 99))), aI g (AY 0) 410 (σY 0), aI g (AY 1) 50 (σY 1), aI g (AY 2) 10 (σY 2), ((AX 7), .inr (0, oX0 AK)), aJ g (AK 0) 11 (ℓK 0), aJ g (AK 1) 11 (ℓK 1), aI g (AK 2) 61 (σK 2), aI g q_8 10240 (σH_5 0), (qX, .inr (6, oX6 AX)), ((AX 5), .inr (5, oX5 AW (.ref q_8))), aI g (AW 0) 121 (σW_16 0), aI g (AW 1) 11 (σW_16 1), ((AX 0), .inr (1, oC AC (σC 99))), aI g (AC 0) 121 (σC 0), aI g (AC 1) 10 (σC 1), aI g (AC 2) 10 (σC 2), aI g (AC 3) 10 (σC 3), aI g (AC 4) 10 (σC 4), aI g (AC 5) 8 (σC 5), aI g (AC 6) 8 (σC 6)]) := hD
      have hP : va_P g.1 vwCl (wX6 qX AX ++ wX1 g (AX 0) AC σC ++ wX1 g (AX 1) AD σD ++ wX3 g (AX 3) AP σP ++ wX2 (AX 4) σN ++ wX5 g (AX 5) AW (.ref q_8) σW_16 ++ wX4 g (AX 6) AY σY ++ wX0 g (AX 7) AK σK ℓK ++ wH g q_8 σH_5) H := hP.sub [20, 24, 25, 26, 27, 28, 29, 30, 31, 0, 1, 2, 3, 4, 5, 6, 7, 8, 9, 10, 21, 22, 23, 11, 12, 13, 14, 15, 16, 17, 18, 19] rfl
      have hD : va_D Z (wX6 qX AX ++ wX1 g (AX 0) AC σC ++ wX1 g (AX 1) AD σD ++ wX3 g (AX 3) AP σP ++ wX2 (AX 4) σN ++ wX5 g (AX 5) AW (.ref q_8) σW_16 ++ wX4 g (AX 6) AY σY ++ wX0 g (AX 7) AK σK ℓK ++ wH g q_8 σH_5) := hD.sub [20, 24, 25, 26, 27, 28, 29, 30, 31, 0, 1, 2, 3, 4, 5, 6, 7, 8, 9, 10, 21, 22, 23, 11, 12, 13, 14, 15, 16, 17, 18, 19] (by decide) rfl
      obtain rfl : r_15 = r_w := hw.symm
      refine lv_bipush (v := 8) hx hb dL_law_368 (by decide) ?_
      refine lv_icmp_eq (tgt := 375) hx hb dL_law_370 (by decide) (fun c_19 => ?_) (fun c_19 => ?_)
      · have hF := q_if_t c_19 hF
        refine W.widen (k := 200) (n := 40000) (by decide) (by decide) ?_
        exact gs_375 hx hb hr hlocks F hK hN hA hZ hbA hX hbl hF hP hD hS (lv_sub hl [1, 2, 3, 4, 5, 6, 7, 8, 9, 0] rfl)
      · have hF := q_if_f c_19 hF
        refine lv_iconst (v := 0) hx hb dL_law_373 (by decide) ?_
        exact absurd hF (by decide)
