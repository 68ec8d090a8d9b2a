set_option maxHeartbeats 8000000 in
set_option maxRecDepth 100000 in
theorem gs_8 {p : Program} {l : Launch} {e : Env} {s : State} {m : MethodId} {below : List Frame} {meth : Method} {c : Code} {b : Nat} {g : GT} {Z : Nat → Prop} {H : Heap} {locs : List Loc} {ls : Array Slot} {qX : Nat} {AX AC AD AP AW AY AK : Nat → Nat} {L : Nat} {xs : Nat → Int32} {σC : qS} {σD : qS} {σP : qS} {σN : qS} {σW : qS} {σY : qS} {σK : qS} {ℓK : qL}
    (hx : p.tables.exec = Jvm.exec) (hb : c.code = cL_law) (hr : meth.sig.returnType = ret) (hlocks : meth.locks = false) (F : CallFix p m c cL_law 30 s #[Value.ref b] wsL_law RL) (hK : va_K g.1 vwCl (tyL g) s) (hN : NW s) (hA : ∀ q : Nat, s.heap.size ≤ q → Z q) (hZ : Z = fun q => s.heap.size ≤ q) (hbA : ¬ Z b) (hX : va_X b L xs s s.heap) (hbl : b < s.heap.size) (hF : g_8 L xs σC σD σP σN σW σY σK ℓK = some 1)
    (hP : va_P g.1 vwCl (wX6 qX AX ++ wX1 g (AX 0) AC σC ++ wX1 g (AX 1) AD σD ++ wX3 g (AX 3) AP σP ++ wX2 (AX 4) σN ++ wX5 g (AX 5) AW .null σW ++ wX4 g (AX 6) AY σY ++ wX0 g (AX 7) AK σK ℓK) H) (hD : va_D Z (wX6 qX AX ++ wX1 g (AX 0) AC σC ++ wX1 g (AX 1) AD σD ++ wX3 g (AX 3) AP σP ++ wX2 (AX 4) σN ++ wX5 g (AX 5) AW .null σW ++ wX4 g (AX 6) AY σY ++ wX0 g (AX 7) AK σK ℓK)) (hS : va_S Z s.heap H locs) (hl : lv_has ls 30 [(0, .ref b), (1, .ref qX)]) : W p l e room_1 s m #[Value.ref b] below meth c H locs 100 20000 (lw_Z below #[Value.ref b] s) (F0 m 8 ls []) := by
  have hts := F.2.2.2.2
  have hown : s.vm.findClass RL = some m.cls := F.2.2.2.1
  dsimp only [g_8] at hF
  refine lv_iconst (v := 1) hx hb dL_law_8 (by decide) ?_
  refine lv_aload_n hx hb dL_law_9 rfl (lv_at hl 0 rfl) ?_
  refine lv_iconst (v := 0) hx hb dL_law_10 (by decide) ?_
  refine lv_iconst (v := 4) hx hb dL_law_11 (by decide) ?_
  obtain ⟨r_1, h_2, hF⟩ := q_cl_s hF
  refine gcX (As := [.ref b, .int 0, .int 4]) (rest := [.int 1]) F hX hbl hbA hS (m_L_cell l b L xs (0 : Int32) (4 : Int32) r_1 h_2) gL_law_L_cell kL_cell rfl rfl rfl ⟨(Nat.le_of_ble_eq_true rfl), (Nat.le_of_ble_eq_true rfl)⟩ rfl rfl hl.1 (Nat.le_of_ble_eq_true rfl) dL_law_12 ⟨(Nat.le_of_ble_eq_true rfl), (Nat.le_of_ble_eq_true rfl)⟩ ?_
  refine lv_iadd hx hb dL_law_15 ?_
  obtain ⟨v2_3, e_4, hF⟩ := q_bd_s hF
  refine gtop e_4 ?_
  refine lv_istore_n (lv' := [(2, .int v2_3), (0, .ref b), (1, .ref qX)]) hx hb dL_law_16 rfl hl (by decide) rfl (fun ls hl => ?_)
  refine lv_iconst (v := 0) hx hb dL_law_17 (by decide) ?_
  refine lv_istore_n (lv' := [(3, .int 0), (2, .int v2_3), (0, .ref b), (1, .ref qX)]) hx hb dL_law_18 rfl hl (by decide) rfl (fun ls hl => ?_)
  refine q_loop (fun u0 => wX6 qX AX ++ wX1 g (AX 0) AC u0.2 ++ wX1 g (AX 1) AD σD ++ wX3 g (AX 3) AP σP ++ wX2 (AX 4) σN ++ wX5 g (AX 5) AW .null σW ++ wX4 g (AX 6) AY σY ++ wX0 g (AX 7) AK σK ℓK) (fun u0 => [(3, .int u0.1), (2, .int v2_3), (0, .ref b), (1, .ref qX)]) 65 hF ?_ ?_ hP hD hS (lv_sub hl [0, 1, 2, 3] rfl)
  · rintro ⟨v3_5, σC_5⟩ hF H locs ls hP hD hS hl
    try dsimp only at hF
    have hP : va_P g.1 vwCl (wX6 qX AX ++ wX1 g (AX 0) AC σC_5 ++ wX1 g (AX 1) AD σD ++ wX3 g (AX 3) AP σP ++ wX2 (AX 4) σN ++ wX5 g (AX 5) AW .null σW ++ wX4 g (AX 6) AY σY ++ wX0 g (AX 7) AK σK ℓK) H := hP
    have hD : va_D Z (wX6 qX AX ++ wX1 g (AX 0) AC σC_5 ++ wX1 g (AX 1) AD σD ++ wX3 g (AX 3) AP σP ++ wX2 (AX 4) σN ++ wX5 g (AX 5) AW .null σW ++ wX4 g (AX 6) AY σY ++ wX0 g (AX 7) AK σK ℓK) := hD
    have hl : lv_has ls 30 [(3, .int v3_5), (2, .int v2_3), (0, .ref b), (1, .ref qX)] := hl
    exact gs_65 hx hb hr hlocks F hK hN hA hZ hbA hX hbl hF hP hD hS (lv_sub hl [2, 3, 1] rfl)
  · rintro k again kk ag ⟨v3_5, σC_5⟩ hF H locs ls hP hD hS hl
    dsimp only [b_L_law_19] at hF
    have hP : va_P g.1 vwCl (wX6 qX AX ++ wX1 g (AX 0) AC σC_5 ++ wX1 g (AX 1) AD σD ++ wX3 g (AX 3) AP σP ++ wX2 (AX 4) σN ++ wX5 g (AX 5) AW .null σW ++ wX4 g (AX 6) AY σY ++ wX0 g (AX 7) AK σK ℓK) H := hP
    have hD : va_D Z (wX6 qX AX ++ wX1 g (AX 0) AC σC_5 ++ wX1 g (AX 1) AD σD ++ wX3 g (AX 3) AP σP ++ wX2 (AX 4) σN ++ wX5 g (AX 5) AW .null σW ++ wX4 g (AX 6) AY σY ++ wX0 g (AX 7) AK σK ℓK) := hD
    have hl : lv_has ls 30 [(3, .int v3_5), (2, .int v2_3), (0, .ref b), (1, .ref qX)] := hl
    refine lv_iload_n hx hb dL_law_19 rfl (lv_at hl 0 rfl) ?_
    refine lv_bipush (v := 10) hx hb dL_law_20 (by decide) ?_
    refine lv_icmp_ge (tgt := 65) hx hb dL_law_22 (by decide) (fun c_6 => ?_) (fun c_6 => ?_)
    · have hF := q_if_t c_6 hF
      exact kk (v3_5, σC_5) hF _ _ _ hP hD hS (lv_sub hl [0, 1, 2, 3] rfl)
    · have hF := q_if_f c_6 hF
      refine lv_aload_n hx hb dL_law_25 rfl (lv_at hl 3 rfl) ?_
      refine lv_iload_n hx hb dL_law_26 rfl (lv_at hl 0 rfl) ?_
      refine lv_if_ne (tgt := 35) hx hb dL_law_27 (by decide) (fun c_7 => ?_) (fun c_7 => ?_)
      · have hF := q_if_f c_7 hF
        refine lv_iload_n hx hb dL_law_35 rfl (lv_at hl 0 rfl) ?_
        refine lv_iconst (v := 1) hx hb dL_law_36 (by decide) ?_
        refine lv_isub hx hb dL_law_37 ?_
        refine lv_iload_n hx hb dL_law_38 rfl (lv_at hl 0 rfl) ?_
        refine lv_iload_n hx hb dL_law_39 rfl (lv_at hl 1 rfl) ?_
        obtain ⟨⟨r_8, σC_9⟩, h_10, hF⟩ := q_cl_s hF
        try dsimp only at hF
        refine gcV_i (As := [.int (v3_5 - 1), .int v3_5, .int v2_3]) (rest := []) (ci := 6) (q := (RX6, TX6, 8)) F hK hN hP hD hS hA (m_X6_road l g H.size qX AX AC σC_5 (v3_5 - 1) v3_5 v2_3 r_8 σC_9 h_10) gL_law_X6_road kX6_road rfl rfl rfl rfl ⟨(Nat.le_of_ble_eq_true rfl), (Nat.le_of_ble_eq_true rfl)⟩ [0, 1, 2, 3, 4, 5, 6, 7, 8] [9, 10, 11, 12, 13, 14, 15, 16, 17, 18, 19, 20, 21, 22, 23, 24, 25, 26, 27, 28, 29, 30] rfl rfl rfl (by decide) rfl rfl rfl rfl rfl hl.1 (Nat.le_of_ble_eq_true rfl) dL_law_40 ⟨(Nat.le_of_ble_eq_true rfl), (Nat.le_of_ble_eq_true rfl)⟩ (fun r_w u_w H locs hw hP hD hS => ?_)
        have hP : va_P g.1 vwCl ([((AX 1), .inr (1, oC AD (σD 99))), aI g (AD 0) 121 (σD 0), aI g (AD 1) 10 (σD 1), aI g (AD 2) 10 (σD 2), aI g (AD 3) 10 (σD 3), aI g (AD 4) 10 (σD 4), aI g (AD 5) 8 (σD 5), aI g (AD 6) 8 (σD 6), ((AX 3), .inr (3, oX3 AP (σP 99))), aI g (AP 0) 60 (σP 0), ((AX 4), .inr (2, oX2 (σN 99))), ((AX 5), .inr (5, oX5 AW .null)), aI g (AW 0) 121 (σW 0), aI g (AW 1) 11 (σW 1), ((AX 6), .inr (4, oX4 AY (σY 99))), aI g (AY 0) 410 (σY 0), aI g (AY 1) 50 (σY 1), aI g (AY 2) 10 (σY 2), ((AX 7), .inr (0, oX0 AK)), aJ g (AK 0) 11 (ℓK 0), aJ g (AK 1) 11 (ℓK 1), aI g (AK 2) 61 (σK 2), (qX, .inr (6, oX6 AX)), ((AX 0), .inr (1, oC AC (σC_9 99))), aI g (AC 0) 121 (σC_9 0), aI g (AC 1) 10 (σC_9 1), aI g (AC 2) 10 (σC_9 2), aI g (AC 3) 10 (σC_9 3), aI g (AC 4) 10 (σC_9 4), aI g (AC 5) 8 (σC_9 5), aI g (AC 6) 8 (σC_9 6)]) H := hP
        have hD : va_D Z ([((AX 1), .inr (1, oC AD (σD 99))), aI g (AD 0) 121 (σD 0), aI g (AD 1) 10 (σD 1), aI g (AD 2) 10 (σD 2), aI g (AD 3) 10 (σD 3), aI g (AD 4) 10 (σD 4), aI g (AD 5) 8 (σD 5), aI g (AD 6) 8 (σD 6), ((AX 3), .inr (3, oX3 AP (σP 99))), aI g (AP 0) 60 (σP 0), ((AX 4), .inr (2, oX2 (σN 99))), ((AX 5), .inr (5, oX5 AW .null)), aI g (AW 0) 121 (σW 0), aI g (AW 1) 11 (σW 1), ((AX 6), .inr (4, oX4 AY (σY 99))), aI g (AY 0) 410 (σY 0), aI g (AY 1) 50 (σY 1), aI g (AY 2) 10 (σY 2), ((AX 7), .inr (0, oX0 AK)), aJ g (AK 0) 11 (ℓK 0), aJ g (AK 1) 11 (ℓK 1), aI g (AK 2) 61 (σK 2), (qX, .inr (6, oX6 AX)), ((AX 0), .inr (1, oC AC (σC_9 99))), aI g (AC 0) 121 (σC_9 0), aI g (AC 1) 10 (σC_9 1), aI g (AC 2) 10 (σC_9 2), aI g (AC 3) 10 (σC_9 3), aI g (AC 4) 10 (σC_9 4), aI g (AC 5) 8 (σC_9 5), aI g (AC 6) 8 (σC_9 6)]) := hD
        have hP : va_P g.1 vwCl (wX6 qX AX ++ wX1 g (AX 0) AC σC_9 ++ wX1 g (AX 1) AD σD ++ wX3 g (AX 3) AP σP ++ wX2 (AX 4) σN ++ wX5 g (AX 5) AW .null σW ++ wX4 g (AX 6) AY σY ++ wX0 g (AX 7) AK σK ℓK) H := hP.sub [22, 23, 24, 25, 26, 27, 28, 29, 30, 0, 1, 2, 3, 4, 5, 6, 7, 8, 9, 10, 11, 12, 13, 14, 15, 16, 17, 18, 19, 20, 21] rfl
        have hD : va_D Z (wX6 qX AX ++ wX1 g (AX 0) AC σC_9 ++ wX1 g (AX 1) AD σD ++ wX3 g (AX 3) AP σP ++ wX2 (AX 4) σN ++ wX5 g (AX 5) AW .null σW ++ wX4 g (AX 6) AY σY ++ wX0 g (AX 7) AK σK ℓK) := hD.sub [22, 23, 24, 25, 26, 27, 28, 29, 30, 0, 1, 2, 3, 4, 5, 6, 7, 8, 9, 10, 11, 12, 13, 14, 15, 16, 17, 18, 19, 20, 21] (by decide) rfl
        obtain rfl : r_8 = r_w := hw.symm
        refine lv_if_ne (tgt := 57) hx hb dL_law_43 (by decide) (fun c_12 => ?_) (fun c_12 => ?_)
        · have hF := q_if_f c_12 hF
          refine lv_iconst (v := 0) hx hb dL_law_57 (by decide) ?_
          exact absurd hF (by decide)
        · have hF := q_if_t (by first | exact c_12 | exact Classical.not_not.mp c_12) hF
          refine lv_aload_n hx hb dL_law_46 rfl (lv_at hl 3 rfl) ?_
          refine lv_iload_n hx hb dL_law_47 rfl (lv_at hl 0 rfl) ?_
          refine lv_iconst (v := 0) hx hb dL_law_48 (by decide) ?_
          refine lv_iconst (v := 0) hx hb dL_law_49 (by decide) ?_
          obtain ⟨⟨r_13, σC_14⟩, h_15, hF⟩ := q_cl_s hF
          try dsimp only at hF
          refine gcV_i (As := [.int v3_5, .int 0, .int 0]) (rest := []) (ci := 6) (q := (RX6, TX6, 8)) F hK hN hP hD hS hA (m_X6_house l g H.size qX AX AC σC_9 v3_5 (0 : Int32) (0 : Int32) r_13 σC_14 h_15) gL_law_X6_house kX6_house rfl rfl rfl rfl ⟨(Nat.le_of_ble_eq_true rfl), (Nat.le_of_ble_eq_true rfl)⟩ [0, 1, 2, 3, 4, 5, 6, 7, 8] [9, 10, 11, 12, 13, 14, 15, 16, 17, 18, 19, 20, 21, 22, 23, 24, 25, 26, 27, 28, 29, 30] rfl rfl rfl (by decide) rfl rfl rfl rfl rfl hl.1 (Nat.le_of_ble_eq_true rfl) dL_law_50 ⟨(Nat.le_of_ble_eq_true rfl), (Nat.le_of_ble_eq_true rfl)⟩ (fun r_w u_w H locs hw hP hD hS => ?_)
          have hP : va_P g.1 vwCl ([((AX 1), .inr (1, oC AD (σD 99))), aI g (AD 0) 121 (σD 0), aI g (AD 1) 10 (σD 1), aI g (AD 2) 10 (σD 2), aI g (AD 3) 10 (σD 3), aI g (AD 4) 10 (σD 4), aI g (AD 5) 8 (σD 5), aI g (AD 6) 8 (σD 6), ((AX 3), .inr (3, oX3 AP (σP 99))), aI g (AP 0) 60 (σP 0), ((AX 4), .inr (2, oX2 (σN 99))), ((AX 5), .inr (5, oX5 AW .null)), aI g (AW 0) 121 (σW 0), aI g (AW 1) 11 (σW 1), ((AX 6), .inr (4, oX4 AY (σY 99))), aI g (AY 0) 410 (σY 0), aI g (AY 1) 50 (σY 1), aI g (AY 2) 10 (σY 2), ((AX 7), .inr (0, oX0 AK)), aJ g (AK 0) 11 (ℓK 0), aJ g (AK 1) 11 (ℓK 1), aI g (AK 2) 61 (σK 2), (qX, .inr (6, oX6 AX)), ((AX 0), .inr (1, oC AC (σC_14 99))), aI g (AC 0) 121 (σC_14 0), aI g (AC 1) 10 (σC_14 1), aI g (AC 2) 10 (σC_14 2), aI g (AC 3) 10 (σC_14 3), aI g (AC 4) 10 (σC_14 4), aI g (AC 5) 8 (σC_14 5), aI g (AC 6) 8 (σC_14 6)]) H := hP
          have hD : va_D Z ([((AX 1), .inr (1, oC AD (σD 99))), aI g (AD 0) 121 (σD 0), aI g (AD 1) 10 (σD 1), aI g (AD 2) 10 (σD 2), aI g (AD 3) 10 (σD 3), aI g (AD 4) 10 (σD 4), aI g (AD 5) 8 (σD 5), aI g (AD 6) 8 (σD 6), ((AX 3), .inr (3, oX3 AP (σP 99))), aI g (AP 0) 60 (σP 0), ((AX 4), .inr (2, oX2 (σN 99))), ((AX 5), .inr (5, oX5 AW .null)), aI g (AW 0) 121 (σW 0), aI g (AW 1) 11 (σW 1), ((AX 6), .inr (4, oX4 AY (σY 99))), aI g (AY 0) 410 (σY 0), aI g (AY 1) 50 (σY 1), aI g (AY 2) 10 (σY 2), ((AX 7), .inr (0, oX0 AK)), aJ g (AK 0) 11 (ℓK 0), aJ g (AK 1) 11 (ℓK 1), aI g (AK 2) 61 (σK 2), (qX, .inr (6, oX6 AX)), ((AX 0), .inr (1, oC AC (σC_14 99))), aI g (AC 0) 121 (σC_14 0), aI g (AC 1) 10 (σC_14 1), aI g (AC 2) 10 (σC_14 2), aI g (AC 3) 10 (σC_14 3), aI g (AC 4) 10 (σC_14 4), aI g (AC 5) 8 (σC_14 5), aI g (AC 6) 8 (σC_14 6)]) := hD
          have hP : va_P g.1 vwCl (wX6 qX AX ++ wX1 g (AX 0) AC σC_14 ++ wX1 g (AX 1) AD σD ++ wX3 g (AX 3) AP σP ++ wX2 (AX 4) σN ++ wX5 g (AX 5) AW .null σW ++ wX4 g (AX 6) AY σY ++ wX0 g (AX 7) AK σK ℓK) H := hP.sub [22, 23, 24, 25, 26, 27, 28, 29, 30, 0, 1, 2, 3, 4, 5, 6, 7, 8, 9, 10, 11, 12, 13, 14, 15, 16, 17, 18, 19, 20, 21] rfl
          have hD : va_D Z (wX6 qX AX ++ wX1 g (AX 0) AC σC_14 ++ wX1 g (AX 1) AD σD ++ wX3 g (AX 3) AP σP ++ wX2 (AX 4) σN ++ wX5 g (AX 5) AW .null σW ++ wX4 g (AX 6) AY σY ++ wX0 g (AX 7) AK σK ℓK) := hD.sub [22, 23, 24, 25, 26, 27, 28, 29, 30, 0, 1, 2, 3, 4, 5, 6, 7, 8, 9, 10, 11, 12, 13, 14, 15, 16, 17, 18, 19, 20, 21] (by decide) rfl
          obtain rfl : r_13 = r_w := hw.symm
          refine lv_iconst (v := 5) hx hb dL_law_53 (by decide) ?_
          refine lv_icmp_eq (tgt := 59) hx hb dL_law_54 (by decide) (fun c_17 => ?_) (fun c_17 => ?_)
          · have hF := q_if_t c_17 hF
            refine lv_iinc (v := v3_5 + 1) (lv' := [(3, .int (v3_5 + 1)), (2, .int v2_3), (0, .ref b), (1, .ref qX)]) hx hb dL_law_59 hl (k := 0) rfl rfl (by decide) rfl (fun ls hl => ?_)
            refine lv_goto (tgt := 19) hx hb dL_law_62 (by decide) ?_
            exact ag (v3_5 + 1, σC_14) hF _ _ _ hP hD hS (lv_sub hl [0, 1, 2, 3] rfl)
          · have hF := q_if_f c_17 hF
            refine lv_iconst (v := 0) hx hb dL_law_57 (by decide) ?_
            exact absurd hF (by decide)
      · have hF := q_if_t (by first | exact c_7 | exact Classical.not_not.mp c_7) hF
        refine lv_bipush (v := 10) hx hb dL_law_30 (by decide) ?_
        refine lv_goto (tgt := 38) hx hb dL_law_32 (by decide) ?_
        refine lv_iload_n hx hb dL_law_38 rfl (lv_at hl 0 rfl) ?_
        refine lv_iload_n hx hb dL_law_39 rfl (lv_at hl 1 rfl) ?_
        obtain ⟨⟨r_18, σC_19⟩, h_20, hF⟩ := q_cl_s hF
        try dsimp only at hF
        refine gcV_i (As := [.int 10, .int v3_5, .int v2_3]) (rest := []) (ci := 6) (q := (RX6, TX6, 8)) F hK hN hP hD hS hA (m_X6_road l g H.size qX AX AC σC_5 (10 : Int32) v3_5 v2_3 r_18 σC_19 h_20) gL_law_X6_road kX6_road rfl rfl rfl rfl ⟨(Nat.le_of_ble_eq_true rfl), (Nat.le_of_ble_eq_true rfl)⟩ [0, 1, 2, 3, 4, 5, 6, 7, 8] [9, 10, 11, 12, 13, 14, 15, 16, 17, 18, 19, 20, 21, 22, 23, 24, 25, 26, 27, 28, 29, 30] rfl rfl rfl (by decide) rfl rfl rfl rfl rfl hl.1 (Nat.le_of_ble_eq_true rfl) dL_law_40 ⟨(Nat.le_of_ble_eq_true rfl), (Nat.le_of_ble_eq_true rfl)⟩ (fun r_w u_w H locs hw hP hD hS => ?_)
        have hP : va_P g.1 vwCl ([((AX 1), .inr (1, oC AD (σD 99))), aI g (AD 0) 121 (σD 0), aI g (AD 1) 10 (σD 1), aI g (AD 2) 10 (σD 2), aI g (AD 3) 10 (σD 3), aI g (AD 4) 10 (σD 4), aI g (AD 5) 8 (σD 5), aI g (AD 6) 8 (σD 6), ((AX 3), .inr (3, oX3 AP (σP 99))), aI g (AP 0) 60 (σP 0), ((AX 4), .inr (2, oX2 (σN 99))), ((AX 5), .inr (5, oX5 AW .null)), aI g (AW 0) 121 (σW 0), aI g (AW 1) 11 (σW 1), ((AX 6), .inr (4, oX4 AY (σY 99))), aI g (AY 0) 410 (σY 0), aI g (AY 1) 50 (σY 1), aI g (AY 2) 10 (σY 2), ((AX 7), .inr (0, oX0 AK)), aJ g (AK 0) 11 (ℓK 0), aJ g (AK 1) 11 (ℓK 1), aI g (AK 2) 61 (σK 2), (qX, .inr (6, oX6 AX)), ((AX 0), .inr (1, oC AC (σC_19 99))), aI g (AC 0) 121 (σC_19 0), aI g (AC 1) 10 (σC_19 1), aI g (AC 2) 10 (σC_19 2), aI g (AC 3) 10 (σC_19 3), aI g (AC 4) 10 (σC_19 4), aI g (AC 5) 8 (σC_19 5), aI g (AC 6) 8 (σC_19 6)]) H := hP
        have hD : va_D Z ([((AX 1), .inr (1, oC AD (σD 99))), aI g (AD 0) 121 (σD 0), aI g (AD 1) 10 (σD 1), aI g (AD 2) 10 (σD 2), aI g (AD 3) 10 (σD 3), aI g (AD 4) 10 (σD 4), aI g (AD 5) 8 (σD 5), aI g (AD 6) 8 (σD 6), ((AX 3), .inr (3, oX3 AP (σP 99))), aI g (AP 0) 60 (σP 0), ((AX 4), .inr (2, oX2 (σN 99))), ((AX 5), .inr (5, oX5 AW .null)), aI g (AW 0) 121 (σW 0), aI g (AW 1) 11 (σW 1), ((AX 6), .inr (4, oX4 AY (σY 99))), aI g (AY 0) 410 (σY 0), aI g (AY 1) 50 (σY 1), aI g (AY 2) 10 (σY 2), ((AX 7), .inr (0, oX0 AK)), aJ g (AK 0) 11 (ℓK 0), aJ g (AK 1) 11 (ℓK 1), aI g (AK 2) 61 (σK 2), (qX, .inr (6, oX6 AX)), ((AX 0), .inr (1, oC AC (σC_19 99))), aI g (AC 0) 121 (σC_19 0), aI g (AC 1) 10 (σC_19 1), aI g (AC 2) 10 (σC_19 2), aI g (AC 3) 10 (σC_19 3), aI g (AC 4) 10 (σC_19 4), aI g (AC 5) 8 (σC_19 5), aI g (AC 6) 8 (σC_19 6)]) := hD
        have hP : va_P g.1 vwCl (wX6 qX AX ++ wX1 g (AX 0) AC σC_19 ++ wX1 g (AX 1) AD σD ++ wX3 g (AX 3) AP σP ++ wX2 (AX 4) σN ++ wX5 g (AX 5) AW .null σW ++ wX4 g (AX 6) AY σY ++ wX0 g (AX 7) AK σK ℓK) H := hP.sub [22, 23, 24, 25, 26, 27, 28, 29, 30, 0, 1, 2, 3, 4, 5, 6, 7, 8, 9, 10, 11, 12, 13, 14, 15, 16, 17, 18, 19, 20, 21] rfl
        have hD : va_D Z (wX6 qX AX ++ wX1 g (AX 0) AC σC_19 ++ wX1 g (AX 1) AD σD ++ wX3 g (AX 3) AP σP ++ wX2 (AX 4) σN ++ wX5 g (AX 5) AW .null σW ++ wX4 g (AX 6) AY σY ++ wX0 g (AX 7) AK σK ℓK) := hD.sub [22, 23, 24, 25, 26, 27, 28, 29, 30, 0, 1, 2, 3, 4, 5, 6, 7, 8, 9, 10, 11, 12, 13, 14, 15, 16, 17, 18, 19, 20, 21] (by decide) rfl
        obtain rfl : r_18 = r_w := hw.symm
        refine lv_if_ne (tgt := 57) hx hb dL_law_43 (by decide) (fun c_22 => ?_) (fun c_22 => ?_)
        · have hF := q_if_f c_22 hF
          refine lv_iconst (v := 0) hx hb dL_law_57 (by decide) ?_
          exact absurd hF (by decide)
        · have hF := q_if_t (by first | exact c_22 | exact Classical.not_not.mp c_22) hF
          refine lv_aload_n hx hb dL_law_46 rfl (lv_at hl 3 rfl) ?_
          refine lv_iload_n hx hb dL_law_47 rfl (lv_at hl 0 rfl) ?_
          refine lv_iconst (v := 0) hx hb dL_law_48 (by decide) ?_
          refine lv_iconst (v := 0) hx hb dL_law_49 (by decide) ?_
          obtain ⟨⟨r_23, σC_24⟩, h_25, hF⟩ := q_cl_s hF
          try dsimp only at hF
          refine gcV_i (As := [.int v3_5, .int 0, .int 0]) (rest := []) (ci := 6) (q := (RX6, TX6, 8)) F hK hN hP hD hS hA (m_X6_house l g H.size qX AX AC σC_19 v3_5 (0 : Int32) (0 : Int32) r_23 σC_24 h_25) gL_law_X6_house kX6_house rfl rfl rfl rfl ⟨(Nat.le_of_ble_eq_true rfl), (Nat.le_of_ble_eq_true rfl)⟩ [0, 1, 2, 3, 4, 5, 6, 7, 8] [9, 10, 11, 12, 13, 14, 15, 16, 17, 18, 19, 20, 21, 22, 23, 24, 25, 26, 27, 28, 29, 30] rfl rfl rfl (by decide) rfl rfl rfl rfl rfl hl.1 (Nat.le_of_ble_eq_true rfl) dL_law_50 ⟨(Nat.le_of_ble_eq_true rfl), (Nat.le_of_ble_eq_true rfl)⟩ (fun r_w u_w H locs hw hP hD hS => ?_)
          have hP : va_P g.1 vwCl ([((AX 1), .inr (1, oC AD (σD 99))), aI g (AD 0) 121 (σD 0), aI g (AD 1) 10 (σD 1), aI g (AD 2) 10 (σD 2), aI g (AD 3) 10 (σD 3), aI g (AD 4) 10 (σD 4), aI g (AD 5) 8 (σD 5), aI g (AD 6) 8 (σD 6), ((AX 3), .inr (3, oX3 AP (σP 99))), aI g (AP 0) 60 (σP 0), ((AX 4), .inr (2, oX2 (σN 99))), ((AX 5), .inr (5, oX5 AW .null)), aI g (AW 0) 121 (σW 0), aI g (AW 1) 11 (σW 1), ((AX 6), .inr (4, oX4 AY (σY 99))), aI g (AY 0) 410 (σY 0), aI g (AY 1) 50 (σY 1), aI g (AY 2) 10 (σY 2), ((AX 7), .inr (0, oX0 AK)), aJ g (AK 0) 11 (ℓK 0), aJ g (AK 1) 11 (ℓK 1), aI g (AK 2) 61 (σK 2), (qX, .inr (6, oX6 AX)), ((AX 0), .inr (1, oC AC (σC_24 99))), aI g (AC 0) 121 (σC_24 0), aI g (AC 1) 10 (σC_24 1), aI g (AC 2) 10 (σC_24 2), aI g (AC 3) 10 (σC_24 3), aI g (AC 4) 10 (σC_24 4), aI g (AC 5) 8 (σC_24 5), aI g (AC 6) 8 (σC_24 6)]) H := hP
          have hD : va_D Z ([((AX 1), .inr (1, oC AD (σD 99))), aI g (AD 0) 121 (σD 0), aI g (AD 1) 10 (σD 1), aI g (AD 2) 10 (σD 2), aI g (AD 3) 10 (σD 3), aI g (AD 4) 10 (σD 4), aI g (AD 5) 8 (σD 5), aI g (AD 6) 8 (σD 6), ((AX 3), .inr (3, oX3 AP (σP 99))), aI g (AP 0) 60 (σP 0), ((AX 4), .inr (2, oX2 (σN 99))), ((AX 5), .inr (5, oX5 AW .null)), aI g (AW 0) 121 (σW 0), aI g (AW 1) 11 (σW 1), ((AX 6), .inr (4, oX4 AY (σY 99))), aI g (AY 0) 410 (σY 0), aI g (AY 1) 50 (σY 1), aI g (AY 2) 10 (σY 2), ((AX 7), .inr (0, oX0 AK)), aJ g (AK 0) 11 (ℓK 0), aJ g (AK 1) 11 (ℓK 1), aI g (AK 2) 61 (σK 2), (qX, .inr (6, oX6 AX)), ((AX 0), .inr (1, oC AC (σC_24 99))), aI g (AC 0) 121 (σC_24 0), aI g (AC 1) 10 (σC_24 1), aI g (AC 2) 10 (σC_24 2), aI g (AC 3) 10 (σC_24 3), aI g (AC 4) 10 (σC_24 4), aI g (AC 5) 8 (σC_24 5), aI g (AC 6) 8 (σC_24 6)]) := hD
          have hP : va_P g.1 vwCl (wX6 qX AX ++ wX1 g (AX 0) AC σC_24 ++ wX1 g (AX 1) AD σD ++ wX3 g (AX 3) AP σP ++ wX2 (AX 4) σN ++ wX5 g (AX 5) AW .null σW ++ wX4 g (AX 6) AY σY ++ wX0 g (AX 7) AK σK ℓK) H := hP.sub [22, 23, 24, 25, 26, 27, 28, 29, 30, 0, 1, 2, 3, 4, 5, 6, 7, 8, 9, 10, 11, 12, 13, 14, 15, 16, 17, 18, 19, 20, 21] rfl
          have hD : va_D Z (wX6 qX AX ++ wX1 g (AX 0) AC σC_24 ++ wX1 g (AX 1) AD σD ++ wX3 g (AX 3) AP σP ++ wX2 (AX 4) σN ++ wX5 g (AX 5) AW .null σW ++ wX4 g (AX 6) AY σY ++ wX0 g (AX 7) AK σK ℓK) := hD.sub [22, 23, 24, 25, 26, 27, 28, 29, 30, 0, 1, 2, 3, 4, 5, 6, 7, 8, 9, 10, 11, 12, 13, 14, 15, 16, 17, 18, 19, 20, 21] (by decide) rfl
          obtain rfl : r_23 = r_w := hw.symm
          refine lv_iconst (v := 5) hx hb dL_law_53 (by decide) ?_
          refine lv_icmp_eq (tgt := 59) hx hb dL_law_54 (by decide) (fun c_27 => ?_) (fun c_27 => ?_)
          · have hF := q_if_t c_27 hF
            refine lv_iinc (v := v3_5 + 1) (lv' := [(3, .int (v3_5 + 1)), (2, .int v2_3), (0, .ref b), (1, .ref qX)]) hx hb dL_law_59 hl (k := 0) rfl rfl (by decide) rfl (fun ls hl => ?_)
            refine lv_goto (tgt := 19) hx hb dL_law_62 (by decide) ?_
            exact ag (v3_5 + 1, σC_24) hF _ _ _ hP hD hS (lv_sub hl [0, 1, 2, 3] rfl)
          · have hF := q_if_f c_27 hF
            refine lv_iconst (v := 0) hx hb dL_law_57 (by decide) ?_
            exact absurd hF (by decide)
