set_option maxHeartbeats 8000000 in
set_option maxRecDepth 100000 in
theorem gs_1743 {p : Program} {l : Launch} {e : Env} {s : State} {m : MethodId} {below : List Frame} {meth : Method} {c : Code} {b : Nat} {g : GT} {Z : Nat → Prop} {H : Heap} {locs : List Loc} {ls : Array Slot} {qH qX : Nat} {AX AC AD AP AW AY AK : Nat → Nat} {L : Nat} {xs : Nat → Int32} {σC : qS} {σD : qS} {σP : qS} {σN : qS} {σW : qS} {σY : qS} {σK : qS} {ℓK : qL} {σH : qS} {v2 : Int32} {v4 : Int32} {v7 : Int32} {v9 : Int32} {v16 : Int32}
    (hx : p.tables.exec = Jvm.exec) (hb : c.code = cL_law) (hr : meth.sig.returnType = ret) (hlocks : meth.locks = false) (F : CallFix p m c cL_law 30 s #[Value.ref b] wsL_law RL) (hK : va_K g.1 vwCl (tyL g) s) (hN : NW s) (hA : ∀ q : Nat, s.heap.size ≤ q → Z q) (hZ : Z = fun q => s.heap.size ≤ q) (hbA : ¬ Z b) (hX : va_X b L xs s s.heap) (hbl : b < s.heap.size) (hF : g_1743 L xs σC σD σP σN σW σY σK ℓK σH v2 v4 v7 v9 v16 = some 1)
    (hP : va_P g.1 vwCl (wX6 qX AX ++ wX1 g (AX 0) AC σC ++ wX1 g (AX 1) AD σD ++ wX3 g (AX 3) AP σP ++ wX2 (AX 4) σN ++ wX5 g (AX 5) AW (.ref qH) σW ++ wX4 g (AX 6) AY σY ++ wX0 g (AX 7) AK σK ℓK ++ wH g qH σH) H) (hD : va_D Z (wX6 qX AX ++ wX1 g (AX 0) AC σC ++ wX1 g (AX 1) AD σD ++ wX3 g (AX 3) AP σP ++ wX2 (AX 4) σN ++ wX5 g (AX 5) AW (.ref qH) σW ++ wX4 g (AX 6) AY σY ++ wX0 g (AX 7) AK σK ℓK ++ wH g qH σH)) (hS : va_S Z s.heap H locs) (hl : lv_has ls 30 [(0, .ref b), (1, .ref qX), (2, .int v2), (4, .int v4), (7, .int v7), (9, .int v9), (16, .int v16)]) : W p l e room_1 s m #[Value.ref b] below meth c H locs 200 40000 (lw_Z below #[Value.ref b] s) (F0 m 1743 ls []) := by
  have hts := F.2.2.2.2
  have hown : s.vm.findClass RL = some m.cls := F.2.2.2.1
  dsimp only [g_1743] at hF
  refine lv_aload_n hx hb dL_law_1743 rfl (lv_at hl 1 rfl) ?_
  refine lv_iconst (v := 4) hx hb dL_law_1744 (by decide) ?_
  obtain ⟨r_1, h_2, hF⟩ := q_cl_s hF
  refine gcV_i (As := [.int 4]) (rest := []) (ci := 6) (q := (RX6, TX6, 8)) F hK hN hP hD hS hA (m_X6_told l g H.size qX AX AP σP AC σC (4 : Int32) r_1 h_2) gL_law_X6_told kX6_told rfl rfl rfl rfl ⟨(Nat.le_of_ble_eq_true rfl), (Nat.le_of_ble_eq_true rfl)⟩ [0, 17, 18, 1, 2, 3, 4, 5, 6, 7, 8] [9, 10, 11, 12, 13, 14, 15, 16, 19, 20, 21, 22, 23, 24, 25, 26, 27, 28, 29, 30, 31] rfl rfl rfl (by decide) rfl rfl rfl rfl rfl hl.1 (Nat.le_of_ble_eq_true rfl) dL_law_1745 ⟨(Nat.le_of_ble_eq_true rfl), (Nat.le_of_ble_eq_true rfl)⟩ (fun r_w u_w H locs hw hP hD hS => ?_)
  have hP : va_P g.1 vwCl (wX6 qX AX ++ wX1 g (AX 0) AC σC ++ wX1 g (AX 1) AD σD ++ wX3 g (AX 3) AP σP ++ wX2 (AX 4) σN ++ wX5 g (AX 5) AW (.ref qH) σW ++ wX4 g (AX 6) AY σY ++ wX0 g (AX 7) AK σK ℓK ++ wH g qH σH) H := hP.sub [21, 24, 25, 26, 27, 28, 29, 30, 31, 0, 1, 2, 3, 4, 5, 6, 7, 22, 23, 8, 9, 10, 11, 12, 13, 14, 15, 16, 17, 18, 19, 20] rfl
  have hD : va_D Z (wX6 qX AX ++ wX1 g (AX 0) AC σC ++ wX1 g (AX 1) AD σD ++ wX3 g (AX 3) AP σP ++ wX2 (AX 4) σN ++ wX5 g (AX 5) AW (.ref qH) σW ++ wX4 g (AX 6) AY σY ++ wX0 g (AX 7) AK σK ℓK ++ wH g qH σH) := hD.sub [21, 24, 25, 26, 27, 28, 29, 30, 31, 0, 1, 2, 3, 4, 5, 6, 7, 22, 23, 8, 9, 10, 11, 12, 13, 14, 15, 16, 17, 18, 19, 20] (by decide) rfl
  obtain rfl : r_1 = r_w := hw.symm
  refine lv_istore (lv' := [(17, .int r_1), (0, .ref b), (1, .ref qX), (2, .int v2), (4, .int v4), (7, .int v7), (9, .int v9), (16, .int v16)]) hx hb dL_law_1748 hl (by decide) rfl (fun ls hl => ?_)
  refine lv_iload hx hb dL_law_1750 (lv_at hl 0 rfl) ?_
  refine lv_istore (lv' := [(18, .int r_1), (17, .int r_1), (0, .ref b), (1, .ref qX), (2, .int v2), (4, .int v4), (7, .int v7), (9, .int v9), (16, .int v16)]) hx hb dL_law_1752 hl (by decide) rfl (fun ls hl => ?_)
  refine q_loop (fun u0 => wX6 qX AX ++ wX1 g (AX 0) AC u0.2.1 ++ wX1 g (AX 1) AD u0.2.2.1 ++ wX3 g (AX 3) AP u0.2.2.2.1 ++ wX2 (AX 4) u0.2.2.2.2 ++ wX5 g (AX 5) AW (.ref qH) σW ++ wX4 g (AX 6) AY σY ++ wX0 g (AX 7) AK σK ℓK ++ wH g qH σH) (fun u0 => [(18, .int u0.1), (0, .ref b), (1, .ref qX), (2, .int v2), (4, .int v4), (7, .int v7), (9, .int v9), (16, .int v16)]) 1807 hF ?_ ?_ hP hD hS (lv_sub hl [0, 2, 3, 4, 5, 6, 7, 8] rfl)
  · rintro ⟨v18_3, σC_3, σD_3, σP_3, σN_3⟩ hF H locs ls hP hD hS hl
    try dsimp only at hF
    have hP : va_P g.1 vwCl (wX6 qX AX ++ wX1 g (AX 0) AC σC_3 ++ wX1 g (AX 1) AD σD_3 ++ wX3 g (AX 3) AP σP_3 ++ wX2 (AX 4) σN_3 ++ wX5 g (AX 5) AW (.ref qH) σW ++ wX4 g (AX 6) AY σY ++ wX0 g (AX 7) AK σK ℓK ++ wH g qH σH) H := hP
    have hD : va_D Z (wX6 qX AX ++ wX1 g (AX 0) AC σC_3 ++ wX1 g (AX 1) AD σD_3 ++ wX3 g (AX 3) AP σP_3 ++ wX2 (AX 4) σN_3 ++ wX5 g (AX 5) AW (.ref qH) σW ++ wX4 g (AX 6) AY σY ++ wX0 g (AX 7) AK σK ℓK ++ wH g qH σH) := hD
    have hl : lv_has ls 30 [(18, .int v18_3), (0, .ref b), (1, .ref qX), (2, .int v2), (4, .int v4), (7, .int v7), (9, .int v9), (16, .int v16)] := hl
    exact gs_1807 hx hb hr hlocks F hK hN hA hZ hbA hX hbl hF hP hD hS (lv_sub hl [1, 2, 3, 4, 5, 6, 7] rfl)
  · rintro k again kk ag ⟨v18_3, σC_3, σD_3, σP_3, σN_3⟩ hF H locs ls hP hD hS hl
    dsimp only [b_L_law_1754] at hF
    have hP : va_P g.1 vwCl (wX6 qX AX ++ wX1 g (AX 0) AC σC_3 ++ wX1 g (AX 1) AD σD_3 ++ wX3 g (AX 3) AP σP_3 ++ wX2 (AX 4) σN_3 ++ wX5 g (AX 5) AW (.ref qH) σW ++ wX4 g (AX 6) AY σY ++ wX0 g (AX 7) AK σK ℓK ++ wH g qH σH) H := hP
    have hD : va_D Z (wX6 qX AX ++ wX1 g (AX 0) AC σC_3 ++ wX1 g (AX 1) AD σD_3 ++ wX3 g (AX 3) AP σP_3 ++ wX2 (AX 4) σN_3 ++ wX5 g (AX 5) AW (.ref qH) σW ++ wX4 g (AX 6) AY σY ++ wX0 g (AX 7) AK σK ℓK ++ wH g qH σH) := hD
    have hl : lv_has ls 30 [(18, .int v18_3), (0, .ref b), (1, .ref qX), (2, .int v2), (4, .int v4), (7, .int v7), (9, .int v9), (16, .int v16)] := hl
    refine lv_iload hx hb dL_law_1754 (lv_at hl 0 rfl) ?_
    refine lv_bipush (v := 99) hx hb dL_law_1756 (by decide) ?_
    refine lv_icmp_ge (tgt := 1807) hx hb dL_law_1758 (by decide) (fun c_4 => ?_) (fun c_4 => ?_)
    · have hF := q_if_t c_4 hF
      exact kk (v18_3, σC_3, σD_3, σP_3, σN_3) hF _ _ _ hP hD hS (lv_sub hl [0, 1, 2, 3, 4, 5, 6, 7] rfl)
    · have hF := q_if_f c_4 hF
      refine lv_aload_n hx hb dL_law_1761 rfl (lv_at hl 2 rfl) ?_
      refine lv_bipush (v := 46) hx hb dL_law_1762 (by decide) ?_
      obtain ⟨⟨r_5, σP_6⟩, h_7, hF⟩ := q_cl_s hF
      try dsimp only at hF
      refine gcV_i (As := [.int 46]) (rest := []) (ci := 6) (q := (RX6, TX6, 8)) F hK hN hP hD hS hA (m_X6_say l g H.size qX AX AP σP_3 (46 : Int32) r_5 σP_6 h_7) gL_law_X6_say kX6_say rfl rfl rfl rfl ⟨(Nat.le_of_ble_eq_true rfl), (Nat.le_of_ble_eq_true rfl)⟩ [0, 17, 18] [1, 2, 3, 4, 5, 6, 7, 8, 9, 10, 11, 12, 13, 14, 15, 16, 19, 20, 21, 22, 23, 24, 25, 26, 27, 28, 29, 30, 31] rfl rfl rfl (by decide) rfl rfl rfl rfl rfl hl.1 (Nat.le_of_ble_eq_true rfl) dL_law_1764 ⟨(Nat.le_of_ble_eq_true rfl), (Nat.le_of_ble_eq_true rfl)⟩ (fun r_w u_w H locs hw hP hD hS => ?_)
      have hP : va_P g.1 vwCl (wX6 qX AX ++ wX1 g (AX 0) AC σC_3 ++ wX1 g (AX 1) AD σD_3 ++ wX3 g (AX 3) AP σP_6 ++ wX2 (AX 4) σN_3 ++ wX5 g (AX 5) AW (.ref qH) σW ++ wX4 g (AX 6) AY σY ++ wX0 g (AX 7) AK σK ℓK ++ wH g qH σH) H := hP.sub [29, 0, 1, 2, 3, 4, 5, 6, 7, 8, 9, 10, 11, 12, 13, 14, 15, 30, 31, 16, 17, 18, 19, 20, 21, 22, 23, 24, 25, 26, 27, 28] rfl
      have hD : va_D Z (wX6 qX AX ++ wX1 g (AX 0) AC σC_3 ++ wX1 g (AX 1) AD σD_3 ++ wX3 g (AX 3) AP σP_6 ++ wX2 (AX 4) σN_3 ++ wX5 g (AX 5) AW (.ref qH) σW ++ wX4 g (AX 6) AY σY ++ wX0 g (AX 7) AK σK ℓK ++ wH g qH σH) := hD.sub [29, 0, 1, 2, 3, 4, 5, 6, 7, 8, 9, 10, 11, 12, 13, 14, 15, 30, 31, 16, 17, 18, 19, 20, 21, 22, 23, 24, 25, 26, 27, 28] (by decide) rfl
      obtain rfl : r_5 = r_w := hw.symm
      refine lv_iconst (v := 1) hx hb dL_law_1767 (by decide) ?_
      refine lv_icmp_ne (tgt := 1799) hx hb dL_law_1768 (by decide) (fun c_9 => ?_) (fun c_9 => ?_)
      · have hF := q_if_f c_9 hF
        refine lv_iconst (v := 0) hx hb dL_law_1799 (by decide) ?_
        exact absurd hF (by decide)
      · have hF := q_if_t (by first | exact c_9 | exact Classical.not_not.mp c_9) hF
        refine lv_aload_n hx hb dL_law_1771 rfl (lv_at hl 2 rfl) ?_
        obtain ⟨⟨r_10, σN_11, σP_12, σD_13, σC_14⟩, h_15, hF⟩ := q_cl_s hF
        try dsimp only at hF
        refine gcV_i (As := []) (rest := []) (ci := 6) (q := (RX6, TX6, 8)) F hK hN hP hD hS hA (m_X6_done l g H.size qX AX σN_3 AP σP_6 AD σD_3 AC σC_3 r_10 σN_11 σP_12 σD_13 σC_14 h_15) gL_law_X6_done kX6_done rfl rfl rfl rfl ⟨(Nat.le_of_ble_eq_true rfl), (Nat.le_of_ble_eq_true rfl)⟩ [0, 19, 17, 18, 9, 10, 11, 12, 13, 14, 15, 16, 1, 2, 3, 4, 5, 6, 7, 8] [20, 21, 22, 23, 24, 25, 26, 27, 28, 29, 30, 31] rfl rfl rfl (by decide) rfl rfl rfl rfl rfl hl.1 (Nat.le_of_ble_eq_true rfl) dL_law_1772 ⟨(Nat.le_of_ble_eq_true rfl), (Nat.le_of_ble_eq_true rfl)⟩ (fun r_w u_w H locs hw hP hD hS => ?_)
        have hP : va_P g.1 vwCl (wX6 qX AX ++ wX1 g (AX 0) AC σC_14 ++ wX1 g (AX 1) AD σD_13 ++ wX3 g (AX 3) AP σP_12 ++ wX2 (AX 4) σN_11 ++ wX5 g (AX 5) AW (.ref qH) σW ++ wX4 g (AX 6) AY σY ++ wX0 g (AX 7) AK σK ℓK ++ wH g qH σH) H := hP.sub [12, 24, 25, 26, 27, 28, 29, 30, 31, 16, 17, 18, 19, 20, 21, 22, 23, 14, 15, 13, 0, 1, 2, 3, 4, 5, 6, 7, 8, 9, 10, 11] rfl
        have hD : va_D Z (wX6 qX AX ++ wX1 g (AX 0) AC σC_14 ++ wX1 g (AX 1) AD σD_13 ++ wX3 g (AX 3) AP σP_12 ++ wX2 (AX 4) σN_11 ++ wX5 g (AX 5) AW (.ref qH) σW ++ wX4 g (AX 6) AY σY ++ wX0 g (AX 7) AK σK ℓK ++ wH g qH σH) := hD.sub [12, 24, 25, 26, 27, 28, 29, 30, 31, 16, 17, 18, 19, 20, 21, 22, 23, 14, 15, 13, 0, 1, 2, 3, 4, 5, 6, 7, 8, 9, 10, 11] (by decide) rfl
        obtain rfl : r_10 = r_w := hw.symm
        refine lv_iconst (v := 1) hx hb dL_law_1775 (by decide) ?_
        refine lv_icmp_ne (tgt := 1799) hx hb dL_law_1776 (by decide) (fun c_17 => ?_) (fun c_17 => ?_)
        · have hF := q_if_f c_17 hF
          refine lv_iconst (v := 0) hx hb dL_law_1799 (by decide) ?_
          exact absurd hF (by decide)
        · have hF := q_if_t (by first | exact c_17 | exact Classical.not_not.mp c_17) hF
          refine lv_aload_n hx hb dL_law_1779 rfl (lv_at hl 2 rfl) ?_
          refine lv_iconst (v := 4) hx hb dL_law_1780 (by decide) ?_
          obtain ⟨r_18, h_19, hF⟩ := q_cl_s hF
          refine gcV_i (As := [.int 4]) (rest := []) (ci := 6) (q := (RX6, TX6, 8)) F hK hN hP hD hS hA (m_X6_told l g H.size qX AX AP σP_12 AC σC_14 (4 : Int32) r_18 h_19) gL_law_X6_told kX6_told rfl rfl rfl rfl ⟨(Nat.le_of_ble_eq_true rfl), (Nat.le_of_ble_eq_true rfl)⟩ [0, 17, 18, 1, 2, 3, 4, 5, 6, 7, 8] [9, 10, 11, 12, 13, 14, 15, 16, 19, 20, 21, 22, 23, 24, 25, 26, 27, 28, 29, 30, 31] rfl rfl rfl (by decide) rfl rfl rfl rfl rfl hl.1 (Nat.le_of_ble_eq_true rfl) dL_law_1781 ⟨(Nat.le_of_ble_eq_true rfl), (Nat.le_of_ble_eq_true rfl)⟩ (fun r_w u_w H locs hw hP hD hS => ?_)
          have hP : va_P g.1 vwCl (wX6 qX AX ++ wX1 g (AX 0) AC σC_14 ++ wX1 g (AX 1) AD σD_13 ++ wX3 g (AX 3) AP σP_12 ++ wX2 (AX 4) σN_11 ++ wX5 g (AX 5) AW (.ref qH) σW ++ wX4 g (AX 6) AY σY ++ wX0 g (AX 7) AK σK ℓK ++ wH g qH σH) H := hP.sub [21, 24, 25, 26, 27, 28, 29, 30, 31, 0, 1, 2, 3, 4, 5, 6, 7, 22, 23, 8, 9, 10, 11, 12, 13, 14, 15, 16, 17, 18, 19, 20] rfl
          have hD : va_D Z (wX6 qX AX ++ wX1 g (AX 0) AC σC_14 ++ wX1 g (AX 1) AD σD_13 ++ wX3 g (AX 3) AP σP_12 ++ wX2 (AX 4) σN_11 ++ wX5 g (AX 5) AW (.ref qH) σW ++ wX4 g (AX 6) AY σY ++ wX0 g (AX 7) AK σK ℓK ++ wH g qH σH) := hD.sub [21, 24, 25, 26, 27, 28, 29, 30, 31, 0, 1, 2, 3, 4, 5, 6, 7, 22, 23, 8, 9, 10, 11, 12, 13, 14, 15, 16, 17, 18, 19, 20] (by decide) rfl
          obtain rfl : r_18 = r_w := hw.symm
          refine lv_iload hx hb dL_law_1784 (lv_at hl 0 rfl) ?_
          refine lv_iconst (v := 1) hx hb dL_law_1786 (by decide) ?_
          refine lv_iadd hx hb dL_law_1787 ?_
          refine lv_icmp_ne (tgt := 1799) hx hb dL_law_1788 (by decide) (fun c_20 => ?_) (fun c_20 => ?_)
          · have hF := q_if_f c_20 hF
            refine lv_iconst (v := 0) hx hb dL_law_1799 (by decide) ?_
            exact absurd hF (by decide)
          · have hF := q_if_t (by first | exact c_20 | exact Classical.not_not.mp c_20) hF
            refine lv_aload_n hx hb dL_law_1791 rfl (lv_at hl 2 rfl) ?_
            refine lv_iconst (v := 2) hx hb dL_law_1792 (by decide) ?_
            obtain ⟨r_21, h_22, hF⟩ := q_cl_s hF
            refine gcV_i (As := [.int 2]) (rest := []) (ci := 6) (q := (RX6, TX6, 8)) F hK hN hP hD hS hA (m_X6_told l g H.size qX AX AP σP_12 AC σC_14 (2 : Int32) r_21 h_22) gL_law_X6_told kX6_told rfl rfl rfl rfl ⟨(Nat.le_of_ble_eq_true rfl), (Nat.le_of_ble_eq_true rfl)⟩ [0, 17, 18, 1, 2, 3, 4, 5, 6, 7, 8] [9, 10, 11, 12, 13, 14, 15, 16, 19, 20, 21, 22, 23, 24, 25, 26, 27, 28, 29, 30, 31] rfl rfl rfl (by decide) rfl rfl rfl rfl rfl hl.1 (Nat.le_of_ble_eq_true rfl) dL_law_1793 ⟨(Nat.le_of_ble_eq_true rfl), (Nat.le_of_ble_eq_true rfl)⟩ (fun r_w u_w H locs hw hP hD hS => ?_)
            have hP : va_P g.1 vwCl (wX6 qX AX ++ wX1 g (AX 0) AC σC_14 ++ wX1 g (AX 1) AD σD_13 ++ wX3 g (AX 3) AP σP_12 ++ wX2 (AX 4) σN_11 ++ wX5 g (AX 5) AW (.ref qH) σW ++ wX4 g (AX 6) AY σY ++ wX0 g (AX 7) AK σK ℓK ++ wH g qH σH) H := hP.sub [21, 24, 25, 26, 27, 28, 29, 30, 31, 0, 1, 2, 3, 4, 5, 6, 7, 22, 23, 8, 9, 10, 11, 12, 13, 14, 15, 16, 17, 18, 19, 20] rfl
            have hD : va_D Z (wX6 qX AX ++ wX1 g (AX 0) AC σC_14 ++ wX1 g (AX 1) AD σD_13 ++ wX3 g (AX 3) AP σP_12 ++ wX2 (AX 4) σN_11 ++ wX5 g (AX 5) AW (.ref qH) σW ++ wX4 g (AX 6) AY σY ++ wX0 g (AX 7) AK σK ℓK ++ wH g qH σH) := hD.sub [21, 24, 25, 26, 27, 28, 29, 30, 31, 0, 1, 2, 3, 4, 5, 6, 7, 22, 23, 8, 9, 10, 11, 12, 13, 14, 15, 16, 17, 18, 19, 20] (by decide) rfl
            obtain rfl : r_21 = r_w := hw.symm
            refine lv_if_eq (tgt := 1801) hx hb dL_law_1796 (by decide) (fun c_23 => ?_) (fun c_23 => ?_)
            · have hF := q_if_t c_23 hF
              refine lv_iinc (v := v18_3 + 1) (lv' := [(18, .int (v18_3 + 1)), (0, .ref b), (1, .ref qX), (2, .int v2), (4, .int v4), (7, .int v7), (9, .int v9), (16, .int v16)]) hx hb dL_law_1801 hl (k := 0) rfl rfl (by decide) rfl (fun ls hl => ?_)
              refine lv_goto (tgt := 1754) hx hb dL_law_1804 (by decide) ?_
              exact ag (v18_3 + 1, σC_14, σD_13, σP_12, σN_11) hF _ _ _ hP hD hS (lv_sub hl [0, 1, 2, 3, 4, 5, 6, 7] rfl)
            · have hF := q_if_f c_23 hF
              refine lv_iconst (v := 0) hx hb dL_law_1799 (by decide) ?_
              exact absurd hF (by decide)
