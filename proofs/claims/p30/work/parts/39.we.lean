set_option maxHeartbeats 8000000 in
set_option maxRecDepth 100000 in
theorem gs_2108 {p : Program} {l : Launch} {e : Env} {s : State} {m : MethodId} {below : List Frame} {meth : Method} {c : Code} {b : Nat} {g : GT} {Z : Nat → Prop} {H : Heap} {locs : List Loc} {ls : Array Slot} {qH qX : Nat} {AX AC AD AP AW AY AK : Nat → Nat} {L : Nat} {xs : Nat → Int32} {σC : qS} {σD : qS} {σP : qS} {σN : qS} {σW : qS} {σY : qS} {σK : qS} {ℓK : qL} {σH : qS} {v2 : Int32} {v4 : Int32} {v7 : Int32} {v9 : Int32} {v20 : Int32}
    (hx : p.tables.exec = Jvm.exec) (hb : c.code = cL_law) (hr : meth.sig.returnType = ret) (hlocks : meth.locks = false) (F : CallFix p m c cL_law 30 s #[Value.ref b] wsL_law RL) (hK : va_K g.1 vwCl (tyL g) s) (hN : NW s) (hA : ∀ q : Nat, s.heap.size ≤ q → Z q) (hZ : Z = fun q => s.heap.size ≤ q) (hbA : ¬ Z b) (hX : va_X b L xs s s.heap) (hbl : b < s.heap.size) (hF : g_2108 L xs σC σD σP σN σW σY σK ℓK σH v2 v4 v7 v9 v20 = some 1)
    (hP : va_P g.1 vwCl (wX6 qX AX ++ wX1 g (AX 0) AC σC ++ wX1 g (AX 1) AD σD ++ wX3 g (AX 3) AP σP ++ wX2 (AX 4) σN ++ wX5 g (AX 5) AW (.ref qH) σW ++ wX4 g (AX 6) AY σY ++ wX0 g (AX 7) AK σK ℓK ++ wH g qH σH) H) (hD : va_D Z (wX6 qX AX ++ wX1 g (AX 0) AC σC ++ wX1 g (AX 1) AD σD ++ wX3 g (AX 3) AP σP ++ wX2 (AX 4) σN ++ wX5 g (AX 5) AW (.ref qH) σW ++ wX4 g (AX 6) AY σY ++ wX0 g (AX 7) AK σK ℓK ++ wH g qH σH)) (hS : va_S Z s.heap H locs) (hl : lv_has ls 30 [(0, .ref b), (1, .ref qX), (2, .int v2), (4, .int v4), (7, .int v7), (9, .int v9), (20, .int v20)]) : W p l e room_1 s m #[Value.ref b] below meth c H locs 200 40000 (lw_Z below #[Value.ref b] s) (F0 m 2108 ls []) := by
  have hts := F.2.2.2.2
  have hown : s.vm.findClass RL = some m.cls := F.2.2.2.1
  dsimp only [g_2108] at hF
  refine lv_aload_n hx hb dL_law_2108 rfl (lv_at hl 1 rfl) ?_
  obtain ⟨⟨r_1, σC_2⟩, h_3, hF⟩ := q_cl_s hF
  try dsimp only at hF
  refine gcV_i (As := []) (rest := []) (ci := 6) (q := (RX6, TX6, 8)) F hK hN hP hD hS hA (m_X6_forget l g H.size qX AX AC σC r_1 σC_2 h_3) gL_law_X6_forget kX6_forget rfl rfl rfl rfl ⟨(Nat.le_of_ble_eq_true rfl), (Nat.le_of_ble_eq_true rfl)⟩ [0, 1, 2, 3, 4, 5, 6, 7, 8] [9, 10, 11, 12, 13, 14, 15, 16, 17, 18, 19, 20, 21, 22, 23, 24, 25, 26, 27, 28, 29, 30, 31] rfl rfl rfl (by decide) rfl rfl rfl rfl rfl hl.1 (Nat.le_of_ble_eq_true rfl) dL_law_2109 ⟨(Nat.le_of_ble_eq_true rfl), (Nat.le_of_ble_eq_true rfl)⟩ (fun r_w u_w H locs hw hP hD hS => ?_)
  have hP : va_P g.1 vwCl ([((AX 1), .inr (1, oC AD (σD 99))), aI g (AD 0) 121 (σD 0), aI g (AD 1) 10 (σD 1), aI g (AD 2) 10 (σD 2), aI g (AD 3) 10 (σD 3), aI g (AD 4) 10 (σD 4), aI g (AD 5) 8 (σD 5), aI g (AD 6) 8 (σD 6), ((AX 3), .inr (3, oX3 AP (σP 99))), aI g (AP 0) 60 (σP 0), ((AX 4), .inr (2, oX2 (σN 99))), ((AX 5), .inr (5, oX5 AW (.ref qH))), aI g (AW 0) 121 (σW 0), aI g (AW 1) 11 (σW 1), ((AX 6), .inr (4, oX4 AY (σY 99))), aI g (AY 0) 410 (σY 0), aI g (AY 1) 50 (σY 1), aI g (AY 2) 10 (σY 2), ((AX 7), .inr (0, oX0 AK)), aJ g (AK 0) 11 (ℓK 0), aJ g (AK 1) 11 (ℓK 1), aI g (AK 2) 61 (σK 2), aI g qH 10240 (σH 0), (qX, .inr (6, oX6 AX)), ((AX 0), .inr (1, oC AC (σC_2 99))), aI g (AC 0) 121 (σC_2 0), aI g (AC 1) 10 (σC_2 1), aI g (AC 2) 10 (σC_2 2), aI g (AC 3) 10 (σC_2 3), aI g (AC 4) 10 (σC_2 4), aI g (AC 5) 8 (σC_2 5), aI g (AC 6) 8 (σC_2 6)]) H := hP
  have hD : va_D Z ([((AX 1), .inr (1, oC AD (σD 99))), aI g (AD 0) 121 (σD 0), aI g (AD 1) 10 (σD 1), aI g (AD 2) 10 (σD 2), aI g (AD 3) 10 (σD 3), aI g (AD 4) 10 (σD 4), aI g (AD 5) 8 (σD 5), aI g (AD 6) 8 (σD 6), ((AX 3), .inr (3, oX3 AP (σP 99))), aI g (AP 0) 60 (σP 0), ((AX 4), .inr (2, oX2 (σN 99))), ((AX 5), .inr (5, oX5 AW (.ref qH))), aI g (AW 0) 121 (σW 0), aI g (AW 1) 11 (σW 1), ((AX 6), .inr (4, oX4 AY (σY 99))), aI g (AY 0) 410 (σY 0), aI g (AY 1) 50 (σY 1), aI g (AY 2) 10 (σY 2), ((AX 7), .inr (0, oX0 AK)), aJ g (AK 0) 11 (ℓK 0), aJ g (AK 1) 11 (ℓK 1), aI g (AK 2) 61 (σK 2), aI g qH 10240 (σH 0), (qX, .inr (6, oX6 AX)), ((AX 0), .inr (1, oC AC (σC_2 99))), aI g (AC 0) 121 (σC_2 0), aI g (AC 1) 10 (σC_2 1), aI g (AC 2) 10 (σC_2 2), aI g (AC 3) 10 (σC_2 3), aI g (AC 4) 10 (σC_2 4), aI g (AC 5) 8 (σC_2 5), aI g (AC 6) 8 (σC_2 6)]) := hD
  have hP : va_P g.1 vwCl (wX6 qX AX ++ wX1 g (AX 0) AC σC_2 ++ wX1 g (AX 1) AD σD ++ wX3 g (AX 3) AP σP ++ wX2 (AX 4) σN ++ wX5 g (AX 5) AW (.ref qH) σW ++ wX4 g (AX 6) AY σY ++ wX0 g (AX 7) AK σK ℓK ++ wH g qH σH) H := hP.sub [23, 24, 25, 26, 27, 28, 29, 30, 31, 0, 1, 2, 3, 4, 5, 6, 7, 8, 9, 10, 11, 12, 13, 14, 15, 16, 17, 18, 19, 20, 21, 22] rfl
  have hD : va_D Z (wX6 qX AX ++ wX1 g (AX 0) AC σC_2 ++ wX1 g (AX 1) AD σD ++ wX3 g (AX 3) AP σP ++ wX2 (AX 4) σN ++ wX5 g (AX 5) AW (.ref qH) σW ++ wX4 g (AX 6) AY σY ++ wX0 g (AX 7) AK σK ℓK ++ wH g qH σH) := hD.sub [23, 24, 25, 26, 27, 28, 29, 30, 31, 0, 1, 2, 3, 4, 5, 6, 7, 8, 9, 10, 11, 12, 13, 14, 15, 16, 17, 18, 19, 20, 21, 22] (by decide) rfl
  obtain rfl : r_1 = r_w := hw.symm
  refine lv_iload hx hb dL_law_2112 (lv_at hl 6 rfl) ?_
  refine lv_icmp_eq (tgt := 2119) hx hb dL_law_2114 (by decide) (fun c_5 => ?_) (fun c_5 => ?_)
  · have hF := q_if_t c_5 hF
    refine lv_iconst (v := 1) hx hb dL_law_2119 (by decide) ?_
    refine lv_aload_n hx hb dL_law_2120 rfl (lv_at hl 0 rfl) ?_
    refine lv_bipush (v := 8) hx hb dL_law_2121 (by decide) ?_
    refine lv_bipush (v := 60) hx hb dL_law_2123 (by decide) ?_
    obtain ⟨r_6, h_7, hF⟩ := q_cl_s hF
    refine gcX (As := [.ref b, .int 8, .int 60]) (rest := [.int 1]) F hX hbl hbA hS (m_L_cell l b L xs (8 : Int32) (60 : Int32) r_6 h_7) gL_law_L_cell kL_cell rfl rfl rfl ⟨(Nat.le_of_ble_eq_true rfl), (Nat.le_of_ble_eq_true rfl)⟩ rfl rfl hl.1 (Nat.le_of_ble_eq_true rfl) dL_law_2125 ⟨(Nat.le_of_ble_eq_true rfl), (Nat.le_of_ble_eq_true rfl)⟩ ?_
    refine lv_iadd hx hb dL_law_2128 ?_
    obtain ⟨v22_8, e_9, hF⟩ := q_bd_s hF
    refine gtop e_9 ?_
    refine lv_istore (lv' := [(22, .int v22_8), (0, .ref b), (1, .ref qX), (2, .int v2), (4, .int v4), (7, .int v7), (9, .int v9), (20, .int v20)]) hx hb dL_law_2129 hl (by decide) rfl (fun ls hl => ?_)
    refine lv_aload_n hx hb dL_law_2131 rfl (lv_at hl 2 rfl) ?_
    refine lv_iload hx hb dL_law_2132 (lv_at hl 0 rfl) ?_
    refine lv_iconst (v := 0) hx hb dL_law_2134 (by decide) ?_
    obtain ⟨⟨r_10, σK_11⟩, h_12, hF⟩ := q_cl_s hF
    try dsimp only at hF
    refine gcV_i (As := [.int v22_8, .int 0]) (rest := []) (ci := 6) (q := (RX6, TX6, 8)) F hK hN hP hD hS hA (m_X6_embers l g H.size qX AX AK σK ℓK v22_8 (0 : Int32) r_10 σK_11 h_12) gL_law_X6_embers kX6_embers rfl rfl rfl rfl ⟨(Nat.le_of_ble_eq_true rfl), (Nat.le_of_ble_eq_true rfl)⟩ [0, 27, 28, 29, 30] [1, 2, 3, 4, 5, 6, 7, 8, 9, 10, 11, 12, 13, 14, 15, 16, 17, 18, 19, 20, 21, 22, 23, 24, 25, 26, 31] rfl rfl rfl (by decide) rfl rfl rfl rfl rfl hl.1 (Nat.le_of_ble_eq_true rfl) dL_law_2135 ⟨(Nat.le_of_ble_eq_true rfl), (Nat.le_of_ble_eq_true rfl)⟩ (fun r_w u_w H locs hw hP hD hS => ?_)
    have hP : va_P g.1 vwCl ([((AX 0), .inr (1, oC AC (σC_2 99))), aI g (AC 0) 121 (σC_2 0), aI g (AC 1) 10 (σC_2 1), aI g (AC 2) 10 (σC_2 2), aI g (AC 3) 10 (σC_2 3), aI g (AC 4) 10 (σC_2 4), aI g (AC 5) 8 (σC_2 5), aI g (AC 6) 8 (σC_2 6), ((AX 1), .inr (1, oC AD (σD 99))), aI g (AD 0) 121 (σD 0), aI g (AD 1) 10 (σD 1), aI g (AD 2) 10 (σD 2), aI g (AD 3) 10 (σD 3), aI g (AD 4) 10 (σD 4), aI g (AD 5) 8 (σD 5), aI g (AD 6) 8 (σD 6), ((AX 3), .inr (3, oX3 AP (σP 99))), aI g (AP 0) 60 (σP 0), ((AX 4), .inr (2, oX2 (σN 99))), ((AX 5), .inr (5, oX5 AW (.ref qH))), aI g (AW 0) 121 (σW 0), aI g (AW 1) 11 (σW 1), ((AX 6), .inr (4, oX4 AY (σY 99))), aI g (AY 0) 410 (σY 0), aI g (AY 1) 50 (σY 1), aI g (AY 2) 10 (σY 2), aI g qH 10240 (σH 0), (qX, .inr (6, oX6 AX)), ((AX 7), .inr (0, oX0 AK)), aJ g (AK 0) 11 (ℓK 0), aJ g (AK 1) 11 (ℓK 1), aI g (AK 2) 61 (σK_11 2)]) H := hP
    have hD : va_D Z ([((AX 0), .inr (1, oC AC (σC_2 99))), aI g (AC 0) 121 (σC_2 0), aI g (AC 1) 10 (σC_2 1), aI g (AC 2) 10 (σC_2 2), aI g (AC 3) 10 (σC_2 3), aI g (AC 4) 10 (σC_2 4), aI g (AC 5) 8 (σC_2 5), aI g (AC 6) 8 (σC_2 6), ((AX 1), .inr (1, oC AD (σD 99))), aI g (AD 0) 121 (σD 0), aI g (AD 1) 10 (σD 1), aI g (AD 2) 10 (σD 2), aI g (AD 3) 10 (σD 3), aI g (AD 4) 10 (σD 4), aI g (AD 5) 8 (σD 5), aI g (AD 6) 8 (σD 6), ((AX 3), .inr (3, oX3 AP (σP 99))), aI g (AP 0) 60 (σP 0), ((AX 4), .inr (2, oX2 (σN 99))), ((AX 5), .inr (5, oX5 AW (.ref qH))), aI g (AW 0) 121 (σW 0), aI g (AW 1) 11 (σW 1), ((AX 6), .inr (4, oX4 AY (σY 99))), aI g (AY 0) 410 (σY 0), aI g (AY 1) 50 (σY 1), aI g (AY 2) 10 (σY 2), aI g qH 10240 (σH 0), (qX, .inr (6, oX6 AX)), ((AX 7), .inr (0, oX0 AK)), aJ g (AK 0) 11 (ℓK 0), aJ g (AK 1) 11 (ℓK 1), aI g (AK 2) 61 (σK_11 2)]) := hD
    have hP : va_P g.1 vwCl (wX6 qX AX ++ wX1 g (AX 0) AC σC_2 ++ wX1 g (AX 1) AD σD ++ wX3 g (AX 3) AP σP ++ wX2 (AX 4) σN ++ wX5 g (AX 5) AW (.ref qH) σW ++ wX4 g (AX 6) AY σY ++ wX0 g (AX 7) AK σK_11 ℓK ++ wH g qH σH) H := hP.sub [27, 0, 1, 2, 3, 4, 5, 6, 7, 8, 9, 10, 11, 12, 13, 14, 15, 16, 17, 18, 19, 20, 21, 22, 23, 24, 25, 28, 29, 30, 31, 26] rfl
    have hD : va_D Z (wX6 qX AX ++ wX1 g (AX 0) AC σC_2 ++ wX1 g (AX 1) AD σD ++ wX3 g (AX 3) AP σP ++ wX2 (AX 4) σN ++ wX5 g (AX 5) AW (.ref qH) σW ++ wX4 g (AX 6) AY σY ++ wX0 g (AX 7) AK σK_11 ℓK ++ wH g qH σH) := hD.sub [27, 0, 1, 2, 3, 4, 5, 6, 7, 8, 9, 10, 11, 12, 13, 14, 15, 16, 17, 18, 19, 20, 21, 22, 23, 24, 25, 28, 29, 30, 31, 26] (by decide) rfl
    obtain rfl : r_10 = r_w := hw.symm
    refine lv_iconst (v := 1) hx hb dL_law_2138 (by decide) ?_
    refine lv_icmp_ne (tgt := 2146) hx hb dL_law_2139 (by decide) (fun c_14 => ?_) (fun c_14 => ?_)
    · have hF := q_if_f c_14 hF
      refine lv_iconst (v := 0) hx hb dL_law_2146 (by decide) ?_
      refine lv_istore (lv' := [(23, .int 0), (22, .int v22_8), (0, .ref b), (1, .ref qX), (2, .int v2), (4, .int v4), (7, .int v7), (9, .int v9), (20, .int v20)]) hx hb dL_law_2147 hl (by decide) rfl (fun ls hl => ?_)
      exact gs_2149 hx hb hr hlocks F hK hN hA hZ hbA hX hbl hF hP hD hS (lv_sub hl [2, 3, 4, 5, 6, 7, 1, 0] rfl)
    · have hF := q_if_t (by first | exact c_14 | exact Classical.not_not.mp c_14) hF
      refine lv_iconst (v := 1) hx hb dL_law_2142 (by decide) ?_
      refine lv_goto (tgt := 2147) hx hb dL_law_2143 (by decide) ?_
      refine lv_istore (lv' := [(23, .int 1), (22, .int v22_8), (0, .ref b), (1, .ref qX), (2, .int v2), (4, .int v4), (7, .int v7), (9, .int v9), (20, .int v20)]) hx hb dL_law_2147 hl (by decide) rfl (fun ls hl => ?_)
      exact gs_2149 hx hb hr hlocks F hK hN hA hZ hbA hX hbl hF hP hD hS (lv_sub hl [2, 3, 4, 5, 6, 7, 1, 0] rfl)
  · have hF := q_if_f c_5 hF
    refine lv_iconst (v := 0) hx hb dL_law_2117 (by decide) ?_
    exact absurd hF (by decide)
