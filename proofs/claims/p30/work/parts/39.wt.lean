set_option maxHeartbeats 8000000 in
set_option maxRecDepth 100000 in
theorem gs_588 {p : Program} {l : Launch} {e : Env} {s : State} {m : MethodId} {below : List Frame} {meth : Method} {c : Code} {b : Nat} {g : GT} {Z : Nat → Prop} {H : Heap} {locs : List Loc} {ls : Array Slot} {qH qX : Nat} {AX AC AD AP AW AY AK : Nat → Nat} {L : Nat} {xs : Nat → Int32} {σC : qS} {σD : qS} {σP : qS} {σN : qS} {σW : qS} {σY : qS} {σK : qS} {ℓK : qL} {σH : qS} {v2 : Int32} {v3 : Int32} {v4 : Int32} {v7 : Int32} {v9 : Int32}
    (hx : p.tables.exec = Jvm.exec) (hb : c.code = cL_law) (hr : meth.sig.returnType = ret) (hlocks : meth.locks = false) (F : CallFix p m c cL_law 30 s #[Value.ref b] wsL_law RL) (hK : va_K g.1 vwCl (tyL g) s) (hN : NW s) (hA : ∀ q : Nat, s.heap.size ≤ q → Z q) (hZ : Z = fun q => s.heap.size ≤ q) (hbA : ¬ Z b) (hX : va_X b L xs s s.heap) (hbl : b < s.heap.size) (hF : g_588 L xs σC σD σP σN σW σY σK ℓK σH v2 v3 v4 v7 v9 = some 1)
    (hP : va_P g.1 vwCl (wX6 qX AX ++ wX1 g (AX 0) AC σC ++ wX1 g (AX 1) AD σD ++ wX3 g (AX 3) AP σP ++ wX2 (AX 4) σN ++ wX5 g (AX 5) AW (.ref qH) σW ++ wX4 g (AX 6) AY σY ++ wX0 g (AX 7) AK σK ℓK ++ wH g qH σH) H) (hD : va_D Z (wX6 qX AX ++ wX1 g (AX 0) AC σC ++ wX1 g (AX 1) AD σD ++ wX3 g (AX 3) AP σP ++ wX2 (AX 4) σN ++ wX5 g (AX 5) AW (.ref qH) σW ++ wX4 g (AX 6) AY σY ++ wX0 g (AX 7) AK σK ℓK ++ wH g qH σH)) (hS : va_S Z s.heap H locs) (hl : lv_has ls 30 [(0, .ref b), (1, .ref qX), (2, .int v2), (3, .int v3), (4, .int v4), (7, .int v7), (9, .int v9)]) : W p l e room_1 s m #[Value.ref b] below meth c H locs 200 40000 (lw_Z below #[Value.ref b] s) (F0 m 588 ls []) := by
  have hts := F.2.2.2.2
  have hown : s.vm.findClass RL = some m.cls := F.2.2.2.1
  dsimp only [g_588] at hF
  refine lv_aload_n hx hb dL_law_588 rfl (lv_at hl 0 rfl) ?_
  refine lv_iconst (v := 3) hx hb dL_law_589 (by decide) ?_
  refine lv_bipush (v := 10) hx hb dL_law_590 (by decide) ?_
  obtain ⟨r_1, h_2, hF⟩ := q_cl_s hF
  refine gcX (As := [.ref b, .int 3, .int 10]) (rest := []) F hX hbl hbA hS (m_L_cell l b L xs (3 : Int32) (10 : Int32) r_1 h_2) gL_law_L_cell kL_cell rfl rfl rfl ⟨(Nat.le_of_ble_eq_true rfl), (Nat.le_of_ble_eq_true rfl)⟩ rfl rfl hl.1 (Nat.le_of_ble_eq_true rfl) dL_law_592 ⟨(Nat.le_of_ble_eq_true rfl), (Nat.le_of_ble_eq_true rfl)⟩ ?_
  refine lv_istore (lv' := [(10, .int r_1), (0, .ref b), (1, .ref qX), (2, .int v2), (3, .int v3), (4, .int v4), (7, .int v7), (9, .int v9)]) hx hb dL_law_595 hl (by decide) rfl (fun ls hl => ?_)
  refine lv_iconst (v := 1) hx hb dL_law_597 (by decide) ?_
  refine lv_aload_n hx hb dL_law_598 rfl (lv_at hl 1 rfl) ?_
  refine lv_iconst (v := 4) hx hb dL_law_599 (by decide) ?_
  refine lv_bipush (v := 9) hx hb dL_law_600 (by decide) ?_
  obtain ⟨r_3, h_4, hF⟩ := q_cl_s hF
  refine gcX (As := [.ref b, .int 4, .int 9]) (rest := [.int 1]) F hX hbl hbA hS (m_L_cell l b L xs (4 : Int32) (9 : Int32) r_3 h_4) gL_law_L_cell kL_cell rfl rfl rfl ⟨(Nat.le_of_ble_eq_true rfl), (Nat.le_of_ble_eq_true rfl)⟩ rfl rfl hl.1 (Nat.le_of_ble_eq_true rfl) dL_law_602 ⟨(Nat.le_of_ble_eq_true rfl), (Nat.le_of_ble_eq_true rfl)⟩ ?_
  refine lv_iadd hx hb dL_law_605 ?_
  obtain ⟨v11_5, e_6, hF⟩ := q_bd_s hF
  refine gtop e_6 ?_
  refine lv_istore (lv' := [(11, .int v11_5), (10, .int r_1), (0, .ref b), (1, .ref qX), (2, .int v2), (3, .int v3), (4, .int v4), (7, .int v7), (9, .int v9)]) hx hb dL_law_606 hl (by decide) rfl (fun ls hl => ?_)
  refine lv_iload_n hx hb dL_law_608 rfl (lv_at hl 5 rfl) ?_
  refine lv_iconst (v := 1) hx hb dL_law_609 (by decide) ?_
  refine lv_iadd hx hb dL_law_610 ?_
  refine lv_bipush (v := 10) hx hb dL_law_611 (by decide) ?_
  refine lv_irem hx hb dL_law_613 (by decide) ?_
  obtain ⟨v12_7, e_8, hF⟩ := q_bd_s hF
  refine gtop e_8 ?_
  refine lv_istore (lv' := [(12, .int v12_7), (11, .int v11_5), (10, .int r_1), (0, .ref b), (1, .ref qX), (2, .int v2), (3, .int v3), (4, .int v4), (7, .int v7), (9, .int v9)]) hx hb dL_law_614 hl (by decide) rfl (fun ls hl => ?_)
  refine lv_iconst (v := 0) hx hb dL_law_616 (by decide) ?_
  refine lv_istore (lv' := [(13, .int 0), (12, .int v12_7), (11, .int v11_5), (10, .int r_1), (0, .ref b), (1, .ref qX), (2, .int v2), (3, .int v3), (4, .int v4), (7, .int v7), (9, .int v9)]) hx hb dL_law_617 hl (by decide) rfl (fun ls hl => ?_)
  refine q_loop (fun u0 => wX6 qX AX ++ wX1 g (AX 0) AC u0.2 ++ wX1 g (AX 1) AD σD ++ wX3 g (AX 3) AP σP ++ wX2 (AX 4) σN ++ wX5 g (AX 5) AW (.ref qH) σW ++ wX4 g (AX 6) AY σY ++ wX0 g (AX 7) AK σK ℓK ++ wH g qH σH) (fun u0 => [(13, .int u0.1), (12, .int v12_7), (11, .int v11_5), (10, .int r_1), (0, .ref b), (1, .ref qX), (2, .int v2), (4, .int v4), (7, .int v7), (9, .int v9)]) 687 hF ?_ ?_ hP hD hS (lv_sub hl [0, 1, 2, 3, 4, 5, 6, 8, 9, 10] rfl)
  · rintro ⟨v13_9, σC_9⟩ hF H locs ls hP hD hS hl
    try dsimp only at hF
    have hP : va_P g.1 vwCl (wX6 qX AX ++ wX1 g (AX 0) AC σC_9 ++ wX1 g (AX 1) AD σD ++ wX3 g (AX 3) AP σP ++ wX2 (AX 4) σN ++ wX5 g (AX 5) AW (.ref qH) σW ++ wX4 g (AX 6) AY σY ++ wX0 g (AX 7) AK σK ℓK ++ wH g qH σH) H := hP
    have hD : va_D Z (wX6 qX AX ++ wX1 g (AX 0) AC σC_9 ++ wX1 g (AX 1) AD σD ++ wX3 g (AX 3) AP σP ++ wX2 (AX 4) σN ++ wX5 g (AX 5) AW (.ref qH) σW ++ wX4 g (AX 6) AY σY ++ wX0 g (AX 7) AK σK ℓK ++ wH g qH σH) := hD
    have hl : lv_has ls 30 [(13, .int v13_9), (12, .int v12_7), (11, .int v11_5), (10, .int r_1), (0, .ref b), (1, .ref qX), (2, .int v2), (4, .int v4), (7, .int v7), (9, .int v9)] := hl
    exact gs_687 hx hb hr hlocks F hK hN hA hZ hbA hX hbl hF hP hD hS (lv_sub hl [4, 5, 6, 7, 8, 9, 3, 2, 1] rfl)
  · rintro k again kk ag ⟨v13_9, σC_9⟩ hF H locs ls hP hD hS hl
    dsimp only [b_L_law_619] at hF
    have hP : va_P g.1 vwCl (wX6 qX AX ++ wX1 g (AX 0) AC σC_9 ++ wX1 g (AX 1) AD σD ++ wX3 g (AX 3) AP σP ++ wX2 (AX 4) σN ++ wX5 g (AX 5) AW (.ref qH) σW ++ wX4 g (AX 6) AY σY ++ wX0 g (AX 7) AK σK ℓK ++ wH g qH σH) H := hP
    have hD : va_D Z (wX6 qX AX ++ wX1 g (AX 0) AC σC_9 ++ wX1 g (AX 1) AD σD ++ wX3 g (AX 3) AP σP ++ wX2 (AX 4) σN ++ wX5 g (AX 5) AW (.ref qH) σW ++ wX4 g (AX 6) AY σY ++ wX0 g (AX 7) AK σK ℓK ++ wH g qH σH) := hD
    have hl : lv_has ls 30 [(13, .int v13_9), (12, .int v12_7), (11, .int v11_5), (10, .int r_1), (0, .ref b), (1, .ref qX), (2, .int v2), (4, .int v4), (7, .int v7), (9, .int v9)] := hl
    refine lv_iload hx hb dL_law_619 (lv_at hl 0 rfl) ?_
    refine lv_bipush (v := 10) hx hb dL_law_621 (by decide) ?_
    refine lv_icmp_ge (tgt := 687) hx hb dL_law_623 (by decide) (fun c_10 => ?_) (fun c_10 => ?_)
    · have hF := q_if_t c_10 hF
      exact kk (v13_9, σC_9) hF _ _ _ hP hD hS (lv_sub hl [0, 1, 2, 3, 4, 5, 6, 7, 8, 9] rfl)
    · have hF := q_if_f c_10 hF
      refine lv_iload hx hb dL_law_626 (lv_at hl 0 rfl) ?_
      refine lv_iload hx hb dL_law_628 (lv_at hl 3 rfl) ?_
      refine lv_icmp_ne (tgt := 638) hx hb dL_law_630 (by decide) (fun c_11 => ?_) (fun c_11 => ?_)
      · have hF := q_if_f c_11 hF
        refine lv_bipush (v := 9) hx hb dL_law_638 (by decide) ?_
        refine lv_istore (lv' := [(14, .int 9), (13, .int v13_9), (12, .int v12_7), (11, .int v11_5), (10, .int r_1), (0, .ref b), (1, .ref qX), (2, .int v2), (4, .int v4), (7, .int v7), (9, .int v9)]) hx hb dL_law_640 hl (by decide) rfl (fun ls hl => ?_)
        refine lv_aload_n hx hb dL_law_642 rfl (lv_at hl 6 rfl) ?_
        refine lv_bipush (v := 10) hx hb dL_law_643 (by decide) ?_
        refine lv_iload hx hb dL_law_645 (lv_at hl 1 rfl) ?_
        refine lv_bipush (v := 9) hx hb dL_law_647 (by decide) ?_
        obtain ⟨⟨r_12, σC_13⟩, h_14, hF⟩ := q_cl_s hF
        try dsimp only at hF
        refine gcV_i (As := [.int 10, .int v13_9, .int 9]) (rest := []) (ci := 6) (q := (RX6, TX6, 8)) F hK hN hP hD hS hA (m_X6_road l g H.size qX AX AC σC_9 (10 : Int32) v13_9 (9 : Int32) r_12 σC_13 h_14) gL_law_X6_road kX6_road rfl rfl rfl rfl ⟨(Nat.le_of_ble_eq_true rfl), (Nat.le_of_ble_eq_true rfl)⟩ [0, 1, 2, 3, 4, 5, 6, 7, 8] [9, 10, 11, 12, 13, 14, 15, 16, 17, 18, 19, 20, 21, 22, 23, 24, 25, 26, 27, 28, 29, 30, 31] rfl rfl rfl (by decide) rfl rfl rfl rfl rfl hl.1 (Nat.le_of_ble_eq_true rfl) dL_law_649 ⟨(Nat.le_of_ble_eq_true rfl), (Nat.le_of_ble_eq_true rfl)⟩ (fun r_w u_w H locs hw hP hD hS => ?_)
        have hP : va_P g.1 vwCl ([((AX 1), .inr (1, oC AD (σD 99))), aI g (AD 0) 121 (σD 0), aI g (AD 1) 10 (σD 1), aI g (AD 2) 10 (σD 2), aI g (AD 3) 10 (σD 3), aI g (AD 4) 10 (σD 4), aI g (AD 5) 8 (σD 5), aI g (AD 6) 8 (σD 6), ((AX 3), .inr (3, oX3 AP (σP 99))), aI g (AP 0) 60 (σP 0), ((AX 4), .inr (2, oX2 (σN 99))), ((AX 5), .inr (5, oX5 AW (.ref qH))), aI g (AW 0) 121 (σW 0), aI g (AW 1) 11 (σW 1), ((AX 6), .inr (4, oX4 AY (σY 99))), aI g (AY 0) 410 (σY 0), aI g (AY 1) 50 (σY 1), aI g (AY 2) 10 (σY 2), ((AX 7), .inr (0, oX0 AK)), aJ g (AK 0) 11 (ℓK 0), aJ g (AK 1) 11 (ℓK 1), aI g (AK 2) 61 (σK 2), aI g qH 10240 (σH 0), (qX, .inr (6, oX6 AX)), ((AX 0), .inr (1, oC AC (σC_13 99))), aI g (AC 0) 121 (σC_13 0), aI g (AC 1) 10 (σC_13 1), aI g (AC 2) 10 (σC_13 2), aI g (AC 3) 10 (σC_13 3), aI g (AC 4) 10 (σC_13 4), aI g (AC 5) 8 (σC_13 5), aI g (AC 6) 8 (σC_13 6)]) H := hP
        have hD : va_D Z ([((AX 1), .inr (1, oC AD (σD 99))), aI g (AD 0) 121 (σD 0), aI g (AD 1) 10 (σD 1), aI g (AD 2) 10 (σD 2), aI g (AD 3) 10 (σD 3), aI g (AD 4) 10 (σD 4), aI g (AD 5) 8 (σD 5), aI g (AD 6) 8 (σD 6), ((AX 3), .inr (3, oX3 AP (σP 99))), aI g (AP 0) 60 (σP 0), ((AX 4), .inr (2, oX2 (σN 99))), ((AX 5), .inr (5, oX5 AW (.ref qH))), aI g (AW 0) 121 (σW 0), aI g (AW 1) 11 (σW 1), ((AX 6), .inr (4, oX4 AY (σY 99))), aI g (AY 0) 410 (σY 0), aI g (AY 1) 50 (σY 1), aI g (AY 2) 10 (σY 2), ((AX 7), .inr (0, oX0 AK)), aJ g (AK 0) 11 (ℓK 0), aJ g (AK 1) 11 (ℓK 1), aI g (AK 2) 61 (σK 2), aI g qH 10240 (σH 0), (qX, .inr (6, oX6 AX)), ((AX 0), .inr (1, oC AC (σC_13 99))), aI g (AC 0) 121 (σC_13 0), aI g (AC 1) 10 (σC_13 1), aI g (AC 2) 10 (σC_13 2), aI g (AC 3) 10 (σC_13 3), aI g (AC 4) 10 (σC_13 4), aI g (AC 5) 8 (σC_13 5), aI g (AC 6) 8 (σC_13 6)]) := hD
        have hP : va_P g.1 vwCl (wX6 qX AX ++ wX1 g (AX 0) AC σC_13 ++ wX1 g (AX 1) AD σD ++ wX3 g (AX 3) AP σP ++ wX2 (AX 4) σN ++ wX5 g (AX 5) AW (.ref qH) σW ++ wX4 g (AX 6) AY σY ++ wX0 g (AX 7) AK σK ℓK ++ wH g qH σH) H := hP.sub [23, 24, 25, 26, 27, 28, 29, 30, 31, 0, 1, 2, 3, 4, 5, 6, 7, 8, 9, 10, 11, 12, 13, 14, 15, 16, 17, 18, 19, 20, 21, 22] rfl
        have hD : va_D Z (wX6 qX AX ++ wX1 g (AX 0) AC σC_13 ++ wX1 g (AX 1) AD σD ++ wX3 g (AX 3) AP σP ++ wX2 (AX 4) σN ++ wX5 g (AX 5) AW (.ref qH) σW ++ wX4 g (AX 6) AY σY ++ wX0 g (AX 7) AK σK ℓK ++ wH g qH σH) := hD.sub [23, 24, 25, 26, 27, 28, 29, 30, 31, 0, 1, 2, 3, 4, 5, 6, 7, 8, 9, 10, 11, 12, 13, 14, 15, 16, 17, 18, 19, 20, 21, 22] (by decide) rfl
        obtain rfl : r_12 = r_w := hw.symm
        refine lv_if_lt (tgt := 679) hx hb dL_law_652 (by decide) (fun c_16 => ?_) (fun c_16 => ?_)
        · have hF := q_if_t c_16 hF
          refine lv_iconst (v := 0) hx hb dL_law_679 (by decide) ?_
          exact absurd hF (by decide)
        · have hF := q_if_f c_16 hF
          refine lv_aload_n hx hb dL_law_655 rfl (lv_at hl 6 rfl) ?_
          refine lv_iload hx hb dL_law_656 (lv_at hl 1 rfl) ?_
          refine lv_iload hx hb dL_law_658 (lv_at hl 0 rfl) ?_
          refine lv_iconst (v := 0) hx hb dL_law_660 (by decide) ?_
          obtain ⟨⟨r_17, σC_18⟩, h_19, hF⟩ := q_cl_s hF
          try dsimp only at hF
          refine gcV_i (As := [.int v13_9, .int 9, .int 0]) (rest := []) (ci := 6) (q := (RX6, TX6, 8)) F hK hN hP hD hS hA (m_X6_house l g H.size qX AX AC σC_13 v13_9 (9 : Int32) (0 : Int32) r_17 σC_18 h_19) gL_law_X6_house kX6_house rfl rfl rfl rfl ⟨(Nat.le_of_ble_eq_true rfl), (Nat.le_of_ble_eq_true rfl)⟩ [0, 1, 2, 3, 4, 5, 6, 7, 8] [9, 10, 11, 12, 13, 14, 15, 16, 17, 18, 19, 20, 21, 22, 23, 24, 25, 26, 27, 28, 29, 30, 31] rfl rfl rfl (by decide) rfl rfl rfl rfl rfl hl.1 (Nat.le_of_ble_eq_true rfl) dL_law_661 ⟨(Nat.le_of_ble_eq_true rfl), (Nat.le_of_ble_eq_true rfl)⟩ (fun r_w u_w H locs hw hP hD hS => ?_)
          have hP : va_P g.1 vwCl ([((AX 1), .inr (1, oC AD (σD 99))), aI g (AD 0) 121 (σD 0), aI g (AD 1) 10 (σD 1), aI g (AD 2) 10 (σD 2), aI g (AD 3) 10 (σD 3), aI g (AD 4) 10 (σD 4), aI g (AD 5) 8 (σD 5), aI g (AD 6) 8 (σD 6), ((AX 3), .inr (3, oX3 AP (σP 99))), aI g (AP 0) 60 (σP 0), ((AX 4), .inr (2, oX2 (σN 99))), ((AX 5), .inr (5, oX5 AW (.ref qH))), aI g (AW 0) 121 (σW 0), aI g (AW 1) 11 (σW 1), ((AX 6), .inr (4, oX4 AY (σY 99))), aI g (AY 0) 410 (σY 0), aI g (AY 1) 50 (σY 1), aI g (AY 2) 10 (σY 2), ((AX 7), .inr (0, oX0 AK)), aJ g (AK 0) 11 (ℓK 0), aJ g (AK 1) 11 (ℓK 1), aI g (AK 2) 61 (σK 2), aI g qH 10240 (σH 0), (qX, .inr (6, oX6 AX)), ((AX 0), .inr (1, oC AC (σC_18 99))), aI g (AC 0) 121 (σC_18 0), aI g (AC 1) 10 (σC_18 1), aI g (AC 2) 10 (σC_18 2), aI g (AC 3) 10 (σC_18 3), aI g (AC 4) 10 (σC_18 4), aI g (AC 5) 8 (σC_18 5), aI g (AC 6) 8 (σC_18 6)]) H := hP
          have hD : va_D Z ([((AX 1), .inr (1, oC AD (σD 99))), aI g (AD 0) 121 (σD 0), aI g (AD 1) 10 (σD 1), aI g (AD 2) 10 (σD 2), aI g (AD 3) 10 (σD 3), aI g (AD 4) 10 (σD 4), aI g (AD 5) 8 (σD 5), aI g (AD 6) 8 (σD 6), ((AX 3), .inr (3, oX3 AP (σP 99))), aI g (AP 0) 60 (σP 0), ((AX 4), .inr (2, oX2 (σN 99))), ((AX 5), .inr (5, oX5 AW (.ref qH))), aI g (AW 0) 121 (σW 0), aI g (AW 1) 11 (σW 1), ((AX 6), .inr (4, oX4 AY (σY 99))), aI g (AY 0) 410 (σY 0), aI g (AY 1) 50 (σY 1), aI g (AY 2) 10 (σY 2), ((AX 7), .inr (0, oX0 AK)), aJ g (AK 0) 11 (ℓK 0), aJ g (AK 1) 11 (ℓK 1), aI g (AK 2) 61 (σK 2), aI g qH 10240 (σH 0), (qX, .inr (6, oX6 AX)), ((AX 0), .inr (1, oC AC (σC_18 99))), aI g (AC 0) 121 (σC_18 0), aI g (AC 1) 10 (σC_18 1), aI g (AC 2) 10 (σC_18 2), aI g (AC 3) 10 (σC_18 3), aI g (AC 4) 10 (σC_18 4), aI g (AC 5) 8 (σC_18 5), aI g (AC 6) 8 (σC_18 6)]) := hD
          have hP : va_P g.1 vwCl (wX6 qX AX ++ wX1 g (AX 0) AC σC_18 ++ wX1 g (AX 1) AD σD ++ wX3 g (AX 3) AP σP ++ wX2 (AX 4) σN ++ wX5 g (AX 5) AW (.ref qH) σW ++ wX4 g (AX 6) AY σY ++ wX0 g (AX 7) AK σK ℓK ++ wH g qH σH) H := hP.sub [23, 24, 25, 26, 27, 28, 29, 30, 31, 0, 1, 2, 3, 4, 5, 6, 7, 8, 9, 10, 11, 12, 13, 14, 15, 16, 17, 18, 19, 20, 21, 22] rfl
          have hD : va_D Z (wX6 qX AX ++ wX1 g (AX 0) AC σC_18 ++ wX1 g (AX 1) AD σD ++ wX3 g (AX 3) AP σP ++ wX2 (AX 4) σN ++ wX5 g (AX 5) AW (.ref qH) σW ++ wX4 g (AX 6) AY σY ++ wX0 g (AX 7) AK σK ℓK ++ wH g qH σH) := hD.sub [23, 24, 25, 26, 27, 28, 29, 30, 31, 0, 1, 2, 3, 4, 5, 6, 7, 8, 9, 10, 11, 12, 13, 14, 15, 16, 17, 18, 19, 20, 21, 22] (by decide) rfl
          obtain rfl : r_17 = r_w := hw.symm
          refine lv_if_lt (tgt := 679) hx hb dL_law_664 (by decide) (fun c_21 => ?_) (fun c_21 => ?_)
          · have hF := q_if_t c_21 hF
            refine lv_iconst (v := 0) hx hb dL_law_679 (by decide) ?_
            exact absurd hF (by decide)
          · have hF := q_if_f c_21 hF
            refine lv_aload_n hx hb dL_law_667 rfl (lv_at hl 6 rfl) ?_
            refine lv_iload hx hb dL_law_668 (lv_at hl 1 rfl) ?_
            refine lv_iconst (v := (-1)) hx hb dL_law_670 (by decide) ?_
            obtain ⟨⟨r_22, σC_23⟩, h_24, hF⟩ := q_cl_s hF
            try dsimp only at hF
            refine gcV_i (As := [.int v13_9, .int (-1)]) (rest := []) (ci := 6) (q := (RX6, TX6, 8)) F hK hN hP hD hS hA (m_X6_tell l g H.size qX AX AC σC_18 v13_9 (-1 : Int32) r_22 σC_23 h_24) gL_law_X6_tell kX6_tell rfl rfl rfl rfl ⟨(Nat.le_of_ble_eq_true rfl), (Nat.le_of_ble_eq_true rfl)⟩ [0, 1, 2, 3, 4, 5, 6, 7, 8] [9, 10, 11, 12, 13, 14, 15, 16, 17, 18, 19, 20, 21, 22, 23, 24, 25, 26, 27, 28, 29, 30, 31] rfl rfl rfl (by decide) rfl rfl rfl rfl rfl hl.1 (Nat.le_of_ble_eq_true rfl) dL_law_671 ⟨(Nat.le_of_ble_eq_true rfl), (Nat.le_of_ble_eq_true rfl)⟩ (fun r_w u_w H locs hw hP hD hS => ?_)
            have hP : va_P g.1 vwCl ([((AX 1), .inr (1, oC AD (σD 99))), aI g (AD 0) 121 (σD 0), aI g (AD 1) 10 (σD 1), aI g (AD 2) 10 (σD 2), aI g (AD 3) 10 (σD 3), aI g (AD 4) 10 (σD 4), aI g (AD 5) 8 (σD 5), aI g (AD 6) 8 (σD 6), ((AX 3), .inr (3, oX3 AP (σP 99))), aI g (AP 0) 60 (σP 0), ((AX 4), .inr (2, oX2 (σN 99))), ((AX 5), .inr (5, oX5 AW (.ref qH))), aI g (AW 0) 121 (σW 0), aI g (AW 1) 11 (σW 1), ((AX 6), .inr (4, oX4 AY (σY 99))), aI g (AY 0) 410 (σY 0), aI g (AY 1) 50 (σY 1), aI g (AY 2) 10 (σY 2), ((AX 7), .inr (0, oX0 AK)), aJ g (AK 0) 11 (ℓK 0), aJ g (AK 1) 11 (ℓK 1), aI g (AK 2) 61 (σK 2), aI g qH 10240 (σH 0), (qX, .inr (6, oX6 AX)), ((AX 0), .inr (1, oC AC (σC_23 99))), aI g (AC 0) 121 (σC_23 0), aI g (AC 1) 10 (σC_23 1), aI g (AC 2) 10 (σC_23 2), aI g (AC 3) 10 (σC_23 3), aI g (AC 4) 10 (σC_23 4), aI g (AC 5) 8 (σC_23 5), aI g (AC 6) 8 (σC_23 6)]) H := hP
            have hD : va_D Z ([((AX 1), .inr (1, oC AD (σD 99))), aI g (AD 0) 121 (σD 0), aI g (AD 1) 10 (σD 1), aI g (AD 2) 10 (σD 2), aI g (AD 3) 10 (σD 3), aI g (AD 4) 10 (σD 4), aI g (AD 5) 8 (σD 5), aI g (AD 6) 8 (σD 6), ((AX 3), .inr (3, oX3 AP (σP 99))), aI g (AP 0) 60 (σP 0), ((AX 4), .inr (2, oX2 (σN 99))), ((AX 5), .inr (5, oX5 AW (.ref qH))), aI g (AW 0) 121 (σW 0), aI g (AW 1) 11 (σW 1), ((AX 6), .inr (4, oX4 AY (σY 99))), aI g (AY 0) 410 (σY 0), aI g (AY 1) 50 (σY 1), aI g (AY 2) 10 (σY 2), ((AX 7), .inr (0, oX0 AK)), aJ g (AK 0) 11 (ℓK 0), aJ g (AK 1) 11 (ℓK 1), aI g (AK 2) 61 (σK 2), aI g qH 10240 (σH 0), (qX, .inr (6, oX6 AX)), ((AX 0), .inr (1, oC AC (σC_23 99))), aI g (AC 0) 121 (σC_23 0), aI g (AC 1) 10 (σC_23 1), aI g (AC 2) 10 (σC_23 2), aI g (AC 3) 10 (σC_23 3), aI g (AC 4) 10 (σC_23 4), aI g (AC 5) 8 (σC_23 5), aI g (AC 6) 8 (σC_23 6)]) := hD
            have hP : va_P g.1 vwCl (wX6 qX AX ++ wX1 g (AX 0) AC σC_23 ++ wX1 g (AX 1) AD σD ++ wX3 g (AX 3) AP σP ++ wX2 (AX 4) σN ++ wX5 g (AX 5) AW (.ref qH) σW ++ wX4 g (AX 6) AY σY ++ wX0 g (AX 7) AK σK ℓK ++ wH g qH σH) H := hP.sub [23, 24, 25, 26, 27, 28, 29, 30, 31, 0, 1, 2, 3, 4, 5, 6, 7, 8, 9, 10, 11, 12, 13, 14, 15, 16, 17, 18, 19, 20, 21, 22] rfl
            have hD : va_D Z (wX6 qX AX ++ wX1 g (AX 0) AC σC_23 ++ wX1 g (AX 1) AD σD ++ wX3 g (AX 3) AP σP ++ wX2 (AX 4) σN ++ wX5 g (AX 5) AW (.ref qH) σW ++ wX4 g (AX 6) AY σY ++ wX0 g (AX 7) AK σK ℓK ++ wH g qH σH) := hD.sub [23, 24, 25, 26, 27, 28, 29, 30, 31, 0, 1, 2, 3, 4, 5, 6, 7, 8, 9, 10, 11, 12, 13, 14, 15, 16, 17, 18, 19, 20, 21, 22] (by decide) rfl
            obtain rfl : r_22 = r_w := hw.symm
            refine lv_bipush (v := (-6)) hx hb dL_law_674 (by decide) ?_
            refine lv_icmp_ge (tgt := 681) hx hb dL_law_676 (by decide) (fun c_26 => ?_) (fun c_26 => ?_)
            · have hF := q_if_t c_26 hF
              refine lv_iinc (v := v13_9 + 1) (lv' := [(13, .int (v13_9 + 1)), (14, .int 9), (12, .int v12_7), (11, .int v11_5), (10, .int r_1), (0, .ref b), (1, .ref qX), (2, .int v2), (4, .int v4), (7, .int v7), (9, .int v9)]) hx hb dL_law_681 hl (k := 1) rfl rfl (by decide) rfl (fun ls hl => ?_)
              refine lv_goto (tgt := 619) hx hb dL_law_684 (by decide) ?_
              exact ag (v13_9 + 1, σC_23) hF _ _ _ hP hD hS (lv_sub hl [0, 2, 3, 4, 5, 6, 7, 8, 9, 10] rfl)
            · have hF := q_if_f c_26 hF
              refine lv_iconst (v := 0) hx hb dL_law_679 (by decide) ?_
              exact absurd hF (by decide)
      · have hF := q_if_t (by first | exact c_11 | exact Classical.not_not.mp c_11) hF
        refine lv_iload hx hb dL_law_633 (lv_at hl 2 rfl) ?_
        refine lv_goto (tgt := 640) hx hb dL_law_635 (by decide) ?_
        refine lv_istore (lv' := [(14, .int v11_5), (13, .int v13_9), (12, .int v12_7), (11, .int v11_5), (10, .int r_1), (0, .ref b), (1, .ref qX), (2, .int v2), (4, .int v4), (7, .int v7), (9, .int v9)]) hx hb dL_law_640 hl (by decide) rfl (fun ls hl => ?_)
        refine lv_aload_n hx hb dL_law_642 rfl (lv_at hl 6 rfl) ?_
        refine lv_bipush (v := 10) hx hb dL_law_643 (by decide) ?_
        refine lv_iload hx hb dL_law_645 (lv_at hl 1 rfl) ?_
        refine lv_bipush (v := 9) hx hb dL_law_647 (by decide) ?_
        obtain ⟨⟨r_27, σC_28⟩, h_29, hF⟩ := q_cl_s hF
        try dsimp only at hF
        refine gcV_i (As := [.int 10, .int v13_9, .int 9]) (rest := []) (ci := 6) (q := (RX6, TX6, 8)) F hK hN hP hD hS hA (m_X6_road l g H.size qX AX AC σC_9 (10 : Int32) v13_9 (9 : Int32) r_27 σC_28 h_29) gL_law_X6_road kX6_road rfl rfl rfl rfl ⟨(Nat.le_of_ble_eq_true rfl), (Nat.le_of_ble_eq_true rfl)⟩ [0, 1, 2, 3, 4, 5, 6, 7, 8] [9, 10, 11, 12, 13, 14, 15, 16, 17, 18, 19, 20, 21, 22, 23, 24, 25, 26, 27, 28, 29, 30, 31] rfl rfl rfl (by decide) rfl rfl rfl rfl rfl hl.1 (Nat.le_of_ble_eq_true rfl) dL_law_649 ⟨(Nat.le_of_ble_eq_true rfl), (Nat.le_of_ble_eq_true rfl)⟩ (fun r_w u_w H locs hw hP hD hS => ?_)
        have hP : va_P g.1 vwCl ([((AX 1), .inr (1, oC AD (σD 99))), aI g (AD 0) 121 (σD 0), aI g (AD 1) 10 (σD 1), aI g (AD 2) 10 (σD 2), aI g (AD 3) 10 (σD 3), aI g (AD 4) 10 (σD 4), aI g (AD 5) 8 (σD 5), aI g (AD 6) 8 (σD 6), ((AX 3), .inr (3, oX3 AP (σP 99))), aI g (AP 0) 60 (σP 0), ((AX 4), .inr (2, oX2 (σN 99))), ((AX 5), .inr (5, oX5 AW (.ref qH))), aI g (AW 0) 121 (σW 0), aI g (AW 1) 11 (σW 1), ((AX 6), .inr (4, oX4 AY (σY 99))), aI g (AY 0) 410 (σY 0), aI g (AY 1) 50 (σY 1), aI g (AY 2) 10 (σY 2), ((AX 7), .inr (0, oX0 AK)), aJ g (AK 0) 11 (ℓK 0), aJ g (AK 1) 11 (ℓK 1), aI g (AK 2) 61 (σK 2), aI g qH 10240 (σH 0), (qX, .inr (6, oX6 AX)), ((AX 0), .inr (1, oC AC (σC_28 99))), aI g (AC 0) 121 (σC_28 0), aI g (AC 1) 10 (σC_28 1), aI g (AC 2) 10 (σC_28 2), aI g (AC 3) 10 (σC_28 3), aI g (AC 4) 10 (σC_28 4), aI g (AC 5) 8 (σC_28 5), aI g (AC 6) 8 (σC_28 6)]) H := hP
        have hD : va_D Z ([((AX 1), .inr (1, oC AD (σD 99))), aI g (AD 0) 121 (σD 0), aI g (AD 1) 10 (σD 1), aI g (AD 2) 10 (σD 2), aI g (AD 3) 10 (σD 3), aI g (AD 4) 10 (σD 4), aI g (AD 5) 8 (σD 5), aI g (AD 6) 8 (σD 6), ((AX 3), .inr (3, oX3 AP (σP 99))), aI g (AP 0) 60 (σP 0), ((AX 4), .inr (2, oX2 (σN 99))), ((AX 5), .inr (5, oX5 AW (.ref qH))), aI g (AW 0) 121 (σW 0), aI g (AW 1) 11 (σW 1), ((AX 6), .inr (4, oX4 AY (σY 99))), aI g (AY 0) 410 (σY 0), aI g (AY 1) 50 (σY 1), aI g (AY 2) 10 (σY 2), ((AX 7), .inr (0, oX0 AK)), aJ g (AK 0) 11 (ℓK 0), aJ g (AK 1) 11 (ℓK 1), aI g (AK 2) 61 (σK 2), aI g qH 10240 (σH 0), (qX, .inr (6, oX6 AX)), ((AX 0), .inr (1, oC AC (σC_28 99))), aI g (AC 0) 121 (σC_28 0), aI g (AC 1) 10 (σC_28 1), aI g (AC 2) 10 (σC_28 2), aI g (AC 3) 10 (σC_28 3), aI g (AC 4) 10 (σC_28 4), aI g (AC 5) 8 (σC_28 5), aI g (AC 6) 8 (σC_28 6)]) := hD
        have hP : va_P g.1 vwCl (wX6 qX AX ++ wX1 g (AX 0) AC σC_28 ++ wX1 g (AX 1) AD σD ++ wX3 g (AX 3) AP σP ++ wX2 (AX 4) σN ++ wX5 g (AX 5) AW (.ref qH) σW ++ wX4 g (AX 6) AY σY ++ wX0 g (AX 7) AK σK ℓK ++ wH g qH σH) H := hP.sub [23, 24, 25, 26, 27, 28, 29, 30, 31, 0, 1, 2, 3, 4, 5, 6, 7, 8, 9, 10, 11, 12, 13, 14, 15, 16, 17, 18, 19, 20, 21, 22] rfl
        have hD : va_D Z (wX6 qX AX ++ wX1 g (AX 0) AC σC_28 ++ wX1 g (AX 1) AD σD ++ wX3 g (AX 3) AP σP ++ wX2 (AX 4) σN ++ wX5 g (AX 5) AW (.ref qH) σW ++ wX4 g (AX 6) AY σY ++ wX0 g (AX 7) AK σK ℓK ++ wH g qH σH) := hD.sub [23, 24, 25, 26, 27, 28, 29, 30, 31, 0, 1, 2, 3, 4, 5, 6, 7, 8, 9, 10, 11, 12, 13, 14, 15, 16, 17, 18, 19, 20, 21, 22] (by decide) rfl
        obtain rfl : r_27 = r_w := hw.symm
        refine lv_if_lt (tgt := 679) hx hb dL_law_652 (by decide) (fun c_31 => ?_) (fun c_31 => ?_)
        · have hF := q_if_t c_31 hF
          refine lv_iconst (v := 0) hx hb dL_law_679 (by decide) ?_
          exact absurd hF (by decide)
        · have hF := q_if_f c_31 hF
          refine lv_aload_n hx hb dL_law_655 rfl (lv_at hl 6 rfl) ?_
          refine lv_iload hx hb dL_law_656 (lv_at hl 1 rfl) ?_
          refine lv_iload hx hb dL_law_658 (lv_at hl 0 rfl) ?_
          refine lv_iconst (v := 0) hx hb dL_law_660 (by decide) ?_
          obtain ⟨⟨r_32, σC_33⟩, h_34, hF⟩ := q_cl_s hF
          try dsimp only at hF
          refine gcV_i (As := [.int v13_9, .int v11_5, .int 0]) (rest := []) (ci := 6) (q := (RX6, TX6, 8)) F hK hN hP hD hS hA (m_X6_house l g H.size qX AX AC σC_28 v13_9 v11_5 (0 : Int32) r_32 σC_33 h_34) gL_law_X6_house kX6_house rfl rfl rfl rfl ⟨(Nat.le_of_ble_eq_true rfl), (Nat.le_of_ble_eq_true rfl)⟩ [0, 1, 2, 3, 4, 5, 6, 7, 8] [9, 10, 11, 12, 13, 14, 15, 16, 17, 18, 19, 20, 21, 22, 23, 24, 25, 26, 27, 28, 29, 30, 31] rfl rfl rfl (by decide) rfl rfl rfl rfl rfl hl.1 (Nat.le_of_ble_eq_true rfl) dL_law_661 ⟨(Nat.le_of_ble_eq_true rfl), (Nat.le_of_ble_eq_true rfl)⟩ (fun r_w u_w H locs hw hP hD hS => ?_)
          have hP : va_P g.1 vwCl ([((AX 1), .inr (1, oC AD (σD 99))), aI g (AD 0) 121 (σD 0), aI g (AD 1) 10 (σD 1), aI g (AD 2) 10 (σD 2), aI g (AD 3) 10 (σD 3), aI g (AD 4) 10 (σD 4), aI g (AD 5) 8 (σD 5), aI g (AD 6) 8 (σD 6), ((AX 3), .inr (3, oX3 AP (σP 99))), aI g (AP 0) 60 (σP 0), ((AX 4), .inr (2, oX2 (σN 99))), ((AX 5), .inr (5, oX5 AW (.ref qH))), aI g (AW 0) 121 (σW 0), aI g (AW 1) 11 (σW 1), ((AX 6), .inr (4, oX4 AY (σY 99))), aI g (AY 0) 410 (σY 0), aI g (AY 1) 50 (σY 1), aI g (AY 2) 10 (σY 2), ((AX 7), .inr (0, oX0 AK)), aJ g (AK 0) 11 (ℓK 0), aJ g (AK 1) 11 (ℓK 1), aI g (AK 2) 61 (σK 2), aI g qH 10240 (σH 0), (qX, .inr (6, oX6 AX)), ((AX 0), .inr (1, oC AC (σC_33 99))), aI g (AC 0) 121 (σC_33 0), aI g (AC 1) 10 (σC_33 1), aI g (AC 2) 10 (σC_33 2), aI g (AC 3) 10 (σC_33 3), aI g (AC 4) 10 (σC_33 4), aI g (AC 5) 8 (σC_33 5), aI g (AC 6) 8 (σC_33 6)]) H := hP
          have hD : va_D Z ([((AX 1), .inr (1, oC AD (σD 99))), aI g (AD 0) 121 (σD 0), aI g (AD 1) 10 (σD 1), aI g (AD 2) 10 (σD 2), aI g (AD 3) 10 (σD 3), aI g (AD 4) 10 (σD 4), aI g (AD 5) 8 (σD 5), aI g (AD 6) 8 (σD 6), ((AX 3), .inr (3, oX3 AP (σP 99))), aI g (AP 0) 60 (σP 0), ((AX 4), .inr (2, oX2 (σN 99))), ((AX 5), .inr (5, oX5 AW (.ref qH))), aI g (AW 0) 121 (σW 0), aI g (AW 1) 11 (σW 1), ((AX 6), .inr (4, oX4 AY (σY 99))), aI g (AY 0) 410 (σY 0), aI g (AY 1) 50 (σY 1), aI g (AY 2) 10 (σY 2), ((AX 7), .inr (0, oX0 AK)), aJ g (AK 0) 11 (ℓK 0), aJ g (AK 1) 11 (ℓK 1), aI g (AK 2) 61 (σK 2), aI g qH 10240 (σH 0), (qX, .inr (6, oX6 AX)), ((AX 0), .inr (1, oC AC (σC_33 99))), aI g (AC 0) 121 (σC_33 0), aI g (AC 1) 10 (σC_33 1), aI g (AC 2) 10 (σC_33 2), aI g (AC 3) 10 (σC_33 3), aI g (AC 4) 10 (σC_33 4), aI g (AC 5) 8 (σC_33 5), aI g (AC 6) 8 (σC_33 6)]) := hD
          have hP : va_P g.1 vwCl (wX6 qX AX ++ wX1 g (AX 0) AC σC_33 ++ wX1 g (AX 1) AD σD ++ wX3 g (AX 3) AP σP ++ wX2 (AX 4) σN ++ wX5 g (AX 5) AW (.ref qH) σW ++ wX4 g (AX 6) AY σY ++ wX0 g (AX 7) AK σK ℓK ++ wH g qH σH) H := hP.sub [23, 24, 25, 26, 27, 28, 29, 30, 31, 0, 1, 2, 3, 4, 5, 6, 7, 8, 9, 10, 11, 12, 13, 14, 15, 16, 17, 18, 19, 20, 21, 22] rfl
          have hD : va_D Z (wX6 qX AX ++ wX1 g (AX 0) AC σC_33 ++ wX1 g (AX 1) AD σD ++ wX3 g (AX 3) AP σP ++ wX2 (AX 4) σN ++ wX5 g (AX 5) AW (.ref qH) σW ++ wX4 g (AX 6) AY σY ++ wX0 g (AX 7) AK σK ℓK ++ wH g qH σH) := hD.sub [23, 24, 25, 26, 27, 28, 29, 30, 31, 0, 1, 2, 3, 4, 5, 6, 7, 8, 9, 10, 11, 12, 13, 14, 15, 16, 17, 18, 19, 20, 21, 22] (by decide) rfl
          obtain rfl : r_32 = r_w := hw.symm
          refine lv_if_lt (tgt := 679) hx hb dL_law_664 (by decide) (fun c_36 => ?_) (fun c_36 => ?_)
          · have hF := q_if_t c_36 hF
            refine lv_iconst (v := 0) hx hb dL_law_679 (by decide) ?_
            exact absurd hF (by decide)
          · have hF := q_if_f c_36 hF
            refine lv_aload_n hx hb dL_law_667 rfl (lv_at hl 6 rfl) ?_
            refine lv_iload hx hb dL_law_668 (lv_at hl 1 rfl) ?_
            refine lv_iconst (v := (-1)) hx hb dL_law_670 (by decide) ?_
            obtain ⟨⟨r_37, σC_38⟩, h_39, hF⟩ := q_cl_s hF
            try dsimp only at hF
            refine gcV_i (As := [.int v13_9, .int (-1)]) (rest := []) (ci := 6) (q := (RX6, TX6, 8)) F hK hN hP hD hS hA (m_X6_tell l g H.size qX AX AC σC_33 v13_9 (-1 : Int32) r_37 σC_38 h_39) gL_law_X6_tell kX6_tell rfl rfl rfl rfl ⟨(Nat.le_of_ble_eq_true rfl), (Nat.le_of_ble_eq_true rfl)⟩ [0, 1, 2, 3, 4, 5, 6, 7, 8] [9, 10, 11, 12, 13, 14, 15, 16, 17, 18, 19, 20, 21, 22, 23, 24, 25, 26, 27, 28, 29, 30, 31] rfl rfl rfl (by decide) rfl rfl rfl rfl rfl hl.1 (Nat.le_of_ble_eq_true rfl) dL_law_671 ⟨(Nat.le_of_ble_eq_true rfl), (Nat.le_of_ble_eq_true rfl)⟩ (fun r_w u_w H locs hw hP hD hS => ?_)
            have hP : va_P g.1 vwCl ([((AX 1), .inr (1, oC AD (σD 99))), aI g (AD 0) 121 (σD 0), aI g (AD 1) 10 (σD 1), aI g (AD 2) 10 (σD 2), aI g (AD 3) 10 (σD 3), aI g (AD 4) 10 (σD 4), aI g (AD 5) 8 (σD 5), aI g (AD 6) 8 (σD 6), ((AX 3), .inr (3, oX3 AP (σP 99))), aI g (AP 0) 60 (σP 0), ((AX 4), .inr (2, oX2 (σN 99))), ((AX 5), .inr (5, oX5 AW (.ref qH))), aI g (AW 0) 121 (σW 0), aI g (AW 1) 11 (σW 1), ((AX 6), .inr (4, oX4 AY (σY 99))), aI g (AY 0) 410 (σY 0), aI g (AY 1) 50 (σY 1), aI g (AY 2) 10 (σY 2), ((AX 7), .inr (0, oX0 AK)), aJ g (AK 0) 11 (ℓK 0), aJ g (AK 1) 11 (ℓK 1), aI g (AK 2) 61 (σK 2), aI g qH 10240 (σH 0), (qX, .inr (6, oX6 AX)), ((AX 0), .inr (1, oC AC (σC_38 99))), aI g (AC 0) 121 (σC_38 0), aI g (AC 1) 10 (σC_38 1), aI g (AC 2) 10 (σC_38 2), aI g (AC 3) 10 (σC_38 3), aI g (AC 4) 10 (σC_38 4), aI g (AC 5) 8 (σC_38 5), aI g (AC 6) 8 (σC_38 6)]) H := hP
            have hD : va_D Z ([((AX 1), .inr (1, oC AD (σD 99))), aI g (AD 0) 121 (σD 0), aI g (AD 1) 10 (σD 1), aI g (AD 2) 10 (σD 2), aI g (AD 3) 10 (σD 3), aI g (AD 4) 10 (σD 4), aI g (AD 5) 8 (σD 5), aI g (AD 6) 8 (σD 6), ((AX 3), .inr (3, oX3 AP (σP 99))), aI g (AP 0) 60 (σP 0), ((AX 4), .inr (2, oX2 (σN 99))), ((AX 5), .inr (5, oX5 AW (.ref qH))), aI g (AW 0) 121 (σW 0), aI g (AW 1) 11 (σW 1), ((AX 6), .inr (4, oX4 AY (σY 99))), aI g (AY 0) 410 (σY 0), aI g (AY 1) 50 (σY 1), aI g (AY 2) 10 (σY 2), ((AX 7), .inr (0, oX0 AK)), aJ g (AK 0) 11 (ℓK 0), aJ g (AK 1) 11 (ℓK 1), aI g (AK 2) 61 (σK 2), aI g qH 10240 (σH 0), (qX, .inr (6, oX6 AX)), ((AX 0), .inr (1, oC AC (σC_38 99))), aI g (AC 0) 121 (σC_38 0), aI g (AC 1) 10 (σC_38 1), aI g (AC 2) 10 (σC_38 2), aI g (AC 3) 10 (σC_38 3), aI g (AC 4) 10 (σC_38 4), aI g (AC 5) 8 (σC_38 5), aI g (AC 6) 8 (σC_38 6)]) := hD
            have hP : va_P g.1 vwCl (wX6 qX AX ++ wX1 g (AX 0) AC σC_38 ++ wX1 g (AX 1) AD σD ++ wX3 g (AX 3) AP σP ++ wX2 (AX 4) σN ++ wX5 g (AX 5) AW (.ref qH) σW ++ wX4 g (AX 6) AY σY ++ wX0 g (AX 7) AK σK ℓK ++ wH g qH σH) H := hP.sub [23, 24, 25, 26, 27, 28, 29, 30, 31, 0, 1, 2, 3, 4, 5, 6, 7, 8, 9, 10, 11, 12, 13, 14, 15, 16, 17, 18, 19, 20, 21, 22] rfl
            have hD : va_D Z (wX6 qX AX ++ wX1 g (AX 0) AC σC_38 ++ wX1 g (AX 1) AD σD ++ wX3 g (AX 3) AP σP ++ wX2 (AX 4) σN ++ wX5 g (AX 5) AW (.ref qH) σW ++ wX4 g (AX 6) AY σY ++ wX0 g (AX 7) AK σK ℓK ++ wH g qH σH) := hD.sub [23, 24, 25, 26, 27, 28, 29, 30, 31, 0, 1, 2, 3, 4, 5, 6, 7, 8, 9, 10, 11, 12, 13, 14, 15, 16, 17, 18, 19, 20, 21, 22] (by decide) rfl
            obtain rfl : r_37 = r_w := hw.symm
            refine lv_bipush (v := (-6)) hx hb dL_law_674 (by decide) ?_
            refine lv_icmp_ge (tgt := 681) hx hb dL_law_676 (by decide) (fun c_41 => ?_) (fun c_41 => ?_)
            · have hF := q_if_t c_41 hF
              refine lv_iinc (v := v13_9 + 1) (lv' := [(13, .int (v13_9 + 1)), (14, .int v11_5), (12, .int v12_7), (11, .int v11_5), (10, .int r_1), (0, .ref b), (1, .ref qX), (2, .int v2), (4, .int v4), (7, .int v7), (9, .int v9)]) hx hb dL_law_681 hl (k := 1) rfl rfl (by decide) rfl (fun ls hl => ?_)
              refine lv_goto (tgt := 619) hx hb dL_law_684 (by decide) ?_
              exact ag (v13_9 + 1, σC_38) hF _ _ _ hP hD hS (lv_sub hl [0, 2, 3, 4, 5, 6, 7, 8, 9, 10] rfl)
            · have hF := q_if_f c_41 hF
              refine lv_iconst (v := 0) hx hb dL_law_679 (by decide) ?_
              exact absurd hF (by decide)
