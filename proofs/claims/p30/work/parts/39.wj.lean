set_option maxHeartbeats 8000000 in
set_option maxRecDepth 100000 in
theorem gs_1698 {p : Program} {l : Launch} {e : Env} {s : State} {m : MethodId} {below : List Frame} {meth : Method} {c : Code} {b : Nat} {g : GT} {Z : Nat → Prop} {H : Heap} {locs : List Loc} {ls : Array Slot} {qH qX : Nat} {AX AC AD AP AW AY AK : Nat → Nat} {L : Nat} {xs : Nat → Int32} {σC : qS} {σD : qS} {σP : qS} {σN : qS} {σW : qS} {σY : qS} {σK : qS} {ℓK : qL} {σH : qS} {v2 : Int32} {v4 : Int32} {v7 : Int32} {v9 : Int32} {v16 : Int32}
    (hx : p.tables.exec = Jvm.exec) (hb : c.code = cL_law) (hr : meth.sig.returnType = ret) (hlocks : meth.locks = false) (F : CallFix p m c cL_law 30 s #[Value.ref b] wsL_law RL) (hK : va_K g.1 vwCl (tyL g) s) (hN : NW s) (hA : ∀ q : Nat, s.heap.size ≤ q → Z q) (hZ : Z = fun q => s.heap.size ≤ q) (hbA : ¬ Z b) (hX : va_X b L xs s s.heap) (hbl : b < s.heap.size) (hF : g_1698 L xs σC σD σP σN σW σY σK ℓK σH v2 v4 v7 v9 v16 = some 1)
    (hP : va_P g.1 vwCl (wX6 qX AX ++ wX1 g (AX 0) AC σC ++ wX1 g (AX 1) AD σD ++ wX3 g (AX 3) AP σP ++ wX2 (AX 4) σN ++ wX5 g (AX 5) AW (.ref qH) σW ++ wX4 g (AX 6) AY σY ++ wX0 g (AX 7) AK σK ℓK ++ wH g qH σH) H) (hD : va_D Z (wX6 qX AX ++ wX1 g (AX 0) AC σC ++ wX1 g (AX 1) AD σD ++ wX3 g (AX 3) AP σP ++ wX2 (AX 4) σN ++ wX5 g (AX 5) AW (.ref qH) σW ++ wX4 g (AX 6) AY σY ++ wX0 g (AX 7) AK σK ℓK ++ wH g qH σH)) (hS : va_S Z s.heap H locs) (hl : lv_has ls 30 [(0, .ref b), (1, .ref qX), (2, .int v2), (4, .int v4), (7, .int v7), (9, .int v9), (16, .int v16)]) : W p l e room_1 s m #[Value.ref b] below meth c H locs 200 40000 (lw_Z below #[Value.ref b] s) (F0 m 1698 ls []) := by
  have hts := F.2.2.2.2
  have hown : s.vm.findClass RL = some m.cls := F.2.2.2.1
  dsimp only [g_1698] at hF
  refine lv_aload_n hx hb dL_law_1698 rfl (lv_at hl 1 rfl) ?_
  refine lv_bipush (v := 126) hx hb dL_law_1699 (by decide) ?_
  obtain ⟨⟨r_1, σP_2⟩, h_3, hF⟩ := q_cl_s hF
  try dsimp only at hF
  refine gcV_i (As := [.int 126]) (rest := []) (ci := 6) (q := (RX6, TX6, 8)) F hK hN hP hD hS hA (m_X6_say l g H.size qX AX AP σP (126 : Int32) r_1 σP_2 h_3) gL_law_X6_say kX6_say rfl rfl rfl rfl ⟨(Nat.le_of_ble_eq_true rfl), (Nat.le_of_ble_eq_true rfl)⟩ [0, 17, 18] [1, 2, 3, 4, 5, 6, 7, 8, 9, 10, 11, 12, 13, 14, 15, 16, 19, 20, 21, 22, 23, 24, 25, 26, 27, 28, 29, 30, 31] rfl rfl rfl (by decide) rfl rfl rfl rfl rfl hl.1 (Nat.le_of_ble_eq_true rfl) dL_law_1701 ⟨(Nat.le_of_ble_eq_true rfl), (Nat.le_of_ble_eq_true rfl)⟩ (fun r_w u_w H locs hw hP hD hS => ?_)
  have hP : va_P g.1 vwCl (wX6 qX AX ++ wX1 g (AX 0) AC σC ++ wX1 g (AX 1) AD σD ++ wX3 g (AX 3) AP σP_2 ++ wX2 (AX 4) σN ++ wX5 g (AX 5) AW (.ref qH) σW ++ wX4 g (AX 6) AY σY ++ wX0 g (AX 7) AK σK ℓK ++ wH g qH σH) H := hP.sub [29, 0, 1, 2, 3, 4, 5, 6, 7, 8, 9, 10, 11, 12, 13, 14, 15, 30, 31, 16, 17, 18, 19, 20, 21, 22, 23, 24, 25, 26, 27, 28] rfl
  have hD : va_D Z (wX6 qX AX ++ wX1 g (AX 0) AC σC ++ wX1 g (AX 1) AD σD ++ wX3 g (AX 3) AP σP_2 ++ wX2 (AX 4) σN ++ wX5 g (AX 5) AW (.ref qH) σW ++ wX4 g (AX 6) AY σY ++ wX0 g (AX 7) AK σK ℓK ++ wH g qH σH) := hD.sub [29, 0, 1, 2, 3, 4, 5, 6, 7, 8, 9, 10, 11, 12, 13, 14, 15, 30, 31, 16, 17, 18, 19, 20, 21, 22, 23, 24, 25, 26, 27, 28] (by decide) rfl
  obtain rfl : r_1 = r_w := hw.symm
  refine lv_bipush (v := (-4)) hx hb dL_law_1704 (by decide) ?_
  refine lv_icmp_ne (tgt := 1741) hx hb dL_law_1706 (by decide) (fun c_5 => ?_) (fun c_5 => ?_)
  · have hF := q_if_f c_5 hF
    refine lv_iconst (v := 0) hx hb dL_law_1741 (by decide) ?_
    exact absurd hF (by decide)
  · have hF := q_if_t (by first | exact c_5 | exact Classical.not_not.mp c_5) hF
    refine lv_aload_n hx hb dL_law_1709 rfl (lv_at hl 1 rfl) ?_
    obtain ⟨⟨r_6, σN_7, σP_8, σD_9, σC_10⟩, h_11, hF⟩ := q_cl_s hF
    try dsimp only at hF
    refine gcV_i (As := []) (rest := []) (ci := 6) (q := (RX6, TX6, 8)) F hK hN hP hD hS hA (m_X6_done l g H.size qX AX σN AP σP_2 AD σD AC σC r_6 σN_7 σP_8 σD_9 σC_10 h_11) gL_law_X6_done kX6_done rfl rfl rfl rfl ⟨(Nat.le_of_ble_eq_true rfl), (Nat.le_of_ble_eq_true rfl)⟩ [0, 19, 17, 18, 9, 10, 11, 12, 13, 14, 15, 16, 1, 2, 3, 4, 5, 6, 7, 8] [20, 21, 22, 23, 24, 25, 26, 27, 28, 29, 30, 31] rfl rfl rfl (by decide) rfl rfl rfl rfl rfl hl.1 (Nat.le_of_ble_eq_true rfl) dL_law_1710 ⟨(Nat.le_of_ble_eq_true rfl), (Nat.le_of_ble_eq_true rfl)⟩ (fun r_w u_w H locs hw hP hD hS => ?_)
    have hP : va_P g.1 vwCl (wX6 qX AX ++ wX1 g (AX 0) AC σC_10 ++ wX1 g (AX 1) AD σD_9 ++ wX3 g (AX 3) AP σP_8 ++ wX2 (AX 4) σN_7 ++ wX5 g (AX 5) AW (.ref qH) σW ++ wX4 g (AX 6) AY σY ++ wX0 g (AX 7) AK σK ℓK ++ wH g qH σH) H := hP.sub [12, 24, 25, 26, 27, 28, 29, 30, 31, 16, 17, 18, 19, 20, 21, 22, 23, 14, 15, 13, 0, 1, 2, 3, 4, 5, 6, 7, 8, 9, 10, 11] rfl
    have hD : va_D Z (wX6 qX AX ++ wX1 g (AX 0) AC σC_10 ++ wX1 g (AX 1) AD σD_9 ++ wX3 g (AX 3) AP σP_8 ++ wX2 (AX 4) σN_7 ++ wX5 g (AX 5) AW (.ref qH) σW ++ wX4 g (AX 6) AY σY ++ wX0 g (AX 7) AK σK ℓK ++ wH g qH σH) := hD.sub [12, 24, 25, 26, 27, 28, 29, 30, 31, 16, 17, 18, 19, 20, 21, 22, 23, 14, 15, 13, 0, 1, 2, 3, 4, 5, 6, 7, 8, 9, 10, 11] (by decide) rfl
    obtain rfl : r_6 = r_w := hw.symm
    refine lv_bipush (v := 58) hx hb dL_law_1713 (by decide) ?_
    refine lv_icmp_ne (tgt := 1741) hx hb dL_law_1715 (by decide) (fun c_13 => ?_) (fun c_13 => ?_)
    · have hF := q_if_f c_13 hF
      refine lv_iconst (v := 0) hx hb dL_law_1741 (by decide) ?_
      exact absurd hF (by decide)
    · have hF := q_if_t (by first | exact c_13 | exact Classical.not_not.mp c_13) hF
      refine lv_aload_n hx hb dL_law_1718 rfl (lv_at hl 1 rfl) ?_
      refine lv_iconst (v := 3) hx hb dL_law_1719 (by decide) ?_
      obtain ⟨r_14, h_15, hF⟩ := q_cl_s hF
      refine gcV_i (As := [.int 3]) (rest := []) (ci := 6) (q := (RX6, TX6, 8)) F hK hN hP hD hS hA (m_X6_told l g H.size qX AX AP σP_8 AC σC_10 (3 : Int32) r_14 h_15) gL_law_X6_told kX6_told rfl rfl rfl rfl ⟨(Nat.le_of_ble_eq_true rfl), (Nat.le_of_ble_eq_true rfl)⟩ [0, 17, 18, 1, 2, 3, 4, 5, 6, 7, 8] [9, 10, 11, 12, 13, 14, 15, 16, 19, 20, 21, 22, 23, 24, 25, 26, 27, 28, 29, 30, 31] rfl rfl rfl (by decide) rfl rfl rfl rfl rfl hl.1 (Nat.le_of_ble_eq_true rfl) dL_law_1720 ⟨(Nat.le_of_ble_eq_true rfl), (Nat.le_of_ble_eq_true rfl)⟩ (fun r_w u_w H locs hw hP hD hS => ?_)
      have hP : va_P g.1 vwCl (wX6 qX AX ++ wX1 g (AX 0) AC σC_10 ++ wX1 g (AX 1) AD σD_9 ++ wX3 g (AX 3) AP σP_8 ++ wX2 (AX 4) σN_7 ++ wX5 g (AX 5) AW (.ref qH) σW ++ wX4 g (AX 6) AY σY ++ wX0 g (AX 7) AK σK ℓK ++ wH g qH σH) H := hP.sub [21, 24, 25, 26, 27, 28, 29, 30, 31, 0, 1, 2, 3, 4, 5, 6, 7, 22, 23, 8, 9, 10, 11, 12, 13, 14, 15, 16, 17, 18, 19, 20] rfl
      have hD : va_D Z (wX6 qX AX ++ wX1 g (AX 0) AC σC_10 ++ wX1 g (AX 1) AD σD_9 ++ wX3 g (AX 3) AP σP_8 ++ wX2 (AX 4) σN_7 ++ wX5 g (AX 5) AW (.ref qH) σW ++ wX4 g (AX 6) AY σY ++ wX0 g (AX 7) AK σK ℓK ++ wH g qH σH) := hD.sub [21, 24, 25, 26, 27, 28, 29, 30, 31, 0, 1, 2, 3, 4, 5, 6, 7, 22, 23, 8, 9, 10, 11, 12, 13, 14, 15, 16, 17, 18, 19, 20] (by decide) rfl
      obtain rfl : r_14 = r_w := hw.symm
      refine lv_bipush (v := 57) hx hb dL_law_1723 (by decide) ?_
      refine lv_iload hx hb dL_law_1725 (lv_at hl 6 rfl) ?_
      obtain ⟨n_16, hF⟩ := q_nz_s hF
      refine lv_irem hx hb dL_law_1727 n_16 ?_
      refine lv_icmp_ne (tgt := 1741) hx hb dL_law_1728 (by decide) (fun c_17 => ?_) (fun c_17 => ?_)
      · have hF := q_if_f c_17 hF
        refine lv_iconst (v := 0) hx hb dL_law_1741 (by decide) ?_
        exact absurd hF (by decide)
      · have hF := q_if_t (by first | exact c_17 | exact Classical.not_not.mp c_17) hF
        refine lv_aload_n hx hb dL_law_1731 rfl (lv_at hl 1 rfl) ?_
        refine lv_iconst (v := 2) hx hb dL_law_1732 (by decide) ?_
        obtain ⟨r_18, h_19, hF⟩ := q_cl_s hF
        refine gcV_i (As := [.int 2]) (rest := []) (ci := 6) (q := (RX6, TX6, 8)) F hK hN hP hD hS hA (m_X6_told l g H.size qX AX AP σP_8 AC σC_10 (2 : Int32) r_18 h_19) gL_law_X6_told kX6_told rfl rfl rfl rfl ⟨(Nat.le_of_ble_eq_true rfl), (Nat.le_of_ble_eq_true rfl)⟩ [0, 17, 18, 1, 2, 3, 4, 5, 6, 7, 8] [9, 10, 11, 12, 13, 14, 15, 16, 19, 20, 21, 22, 23, 24, 25, 26, 27, 28, 29, 30, 31] rfl rfl rfl (by decide) rfl rfl rfl rfl rfl hl.1 (Nat.le_of_ble_eq_true rfl) dL_law_1733 ⟨(Nat.le_of_ble_eq_true rfl), (Nat.le_of_ble_eq_true rfl)⟩ (fun r_w u_w H locs hw hP hD hS => ?_)
        have hP : va_P g.1 vwCl (wX6 qX AX ++ wX1 g (AX 0) AC σC_10 ++ wX1 g (AX 1) AD σD_9 ++ wX3 g (AX 3) AP σP_8 ++ wX2 (AX 4) σN_7 ++ wX5 g (AX 5) AW (.ref qH) σW ++ wX4 g (AX 6) AY σY ++ wX0 g (AX 7) AK σK ℓK ++ wH g qH σH) H := hP.sub [21, 24, 25, 26, 27, 28, 29, 30, 31, 0, 1, 2, 3, 4, 5, 6, 7, 22, 23, 8, 9, 10, 11, 12, 13, 14, 15, 16, 17, 18, 19, 20] rfl
        have hD : va_D Z (wX6 qX AX ++ wX1 g (AX 0) AC σC_10 ++ wX1 g (AX 1) AD σD_9 ++ wX3 g (AX 3) AP σP_8 ++ wX2 (AX 4) σN_7 ++ wX5 g (AX 5) AW (.ref qH) σW ++ wX4 g (AX 6) AY σY ++ wX0 g (AX 7) AK σK ℓK ++ wH g qH σH) := hD.sub [21, 24, 25, 26, 27, 28, 29, 30, 31, 0, 1, 2, 3, 4, 5, 6, 7, 22, 23, 8, 9, 10, 11, 12, 13, 14, 15, 16, 17, 18, 19, 20] (by decide) rfl
        obtain rfl : r_18 = r_w := hw.symm
        refine lv_bipush (v := 99) hx hb dL_law_1736 (by decide) ?_
        refine lv_icmp_eq (tgt := 1743) hx hb dL_law_1738 (by decide) (fun c_20 => ?_) (fun c_20 => ?_)
        · have hF := q_if_t c_20 hF
          exact gs_1743 hx hb hr hlocks F hK hN hA hZ hbA hX hbl hF hP hD hS (lv_sub hl [0, 1, 2, 3, 4, 5, 6] rfl)
        · have hF := q_if_f c_20 hF
          refine lv_iconst (v := 0) hx hb dL_law_1741 (by decide) ?_
          exact absurd hF (by decide)
