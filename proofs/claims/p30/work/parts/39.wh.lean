set_option maxHeartbeats 8000000 in
set_option maxRecDepth 100000 in
theorem gs_1807 {p : Program} {l : Launch} {e : Env} {s : State} {m : MethodId} {below : List Frame} {meth : Method} {c : Code} {b : Nat} {g : GT} {Z : Nat → Prop} {H : Heap} {locs : List Loc} {ls : Array Slot} {qH qX : Nat} {AX AC AD AP AW AY AK : Nat → Nat} {L : Nat} {xs : Nat → Int32} {σC : qS} {σD : qS} {σP : qS} {σN : qS} {σW : qS} {σY : qS} {σK : qS} {ℓK : qL} {σH : qS} {v2 : Int32} {v4 : Int32} {v7 : Int32} {v9 : Int32} {v16 : Int32}
    (hx : p.tables.exec = Jvm.exec) (hb : c.code = cL_law) (hr : meth.sig.returnType = ret) (hlocks : meth.locks = false) (F : CallFix p m c cL_law 30 s #[Value.ref b] wsL_law RL) (hK : va_K g.1 vwCl (tyL g) s) (hN : NW s) (hA : ∀ q : Nat, s.heap.size ≤ q → Z q) (hZ : Z = fun q => s.heap.size ≤ q) (hbA : ¬ Z b) (hX : va_X b L xs s s.heap) (hbl : b < s.heap.size) (hF : g_1807 L xs σC σD σP σN σW σY σK ℓK σH v2 v4 v7 v9 v16 = some 1)
    (hP : va_P g.1 vwCl (wX6 qX AX ++ wX1 g (AX 0) AC σC ++ wX1 g (AX 1) AD σD ++ wX3 g (AX 3) AP σP ++ wX2 (AX 4) σN ++ wX5 g (AX 5) AW (.ref qH) σW ++ wX4 g (AX 6) AY σY ++ wX0 g (AX 7) AK σK ℓK ++ wH g qH σH) H) (hD : va_D Z (wX6 qX AX ++ wX1 g (AX 0) AC σC ++ wX1 g (AX 1) AD σD ++ wX3 g (AX 3) AP σP ++ wX2 (AX 4) σN ++ wX5 g (AX 5) AW (.ref qH) σW ++ wX4 g (AX 6) AY σY ++ wX0 g (AX 7) AK σK ℓK ++ wH g qH σH)) (hS : va_S Z s.heap H locs) (hl : lv_has ls 30 [(0, .ref b), (1, .ref qX), (2, .int v2), (4, .int v4), (7, .int v7), (9, .int v9), (16, .int v16)]) : W p l e room_1 s m #[Value.ref b] below meth c H locs 200 40000 (lw_Z below #[Value.ref b] s) (F0 m 1807 ls []) := by
  have hts := F.2.2.2.2
  have hown : s.vm.findClass RL = some m.cls := F.2.2.2.1
  dsimp only [g_1807] at hF
  refine lv_aload_n hx hb dL_law_1807 rfl (lv_at hl 1 rfl) ?_
  refine lv_bipush (v := 46) hx hb dL_law_1808 (by decide) ?_
  obtain ⟨⟨r_1, σP_2⟩, h_3, hF⟩ := q_cl_s hF
  try dsimp only at hF
  refine gcV_i (As := [.int 46]) (rest := []) (ci := 6) (q := (RX6, TX6, 8)) F hK hN hP hD hS hA (m_X6_say l g H.size qX AX AP σP (46 : Int32) r_1 σP_2 h_3) gL_law_X6_say kX6_say rfl rfl rfl rfl ⟨(Nat.le_of_ble_eq_true rfl), (Nat.le_of_ble_eq_true rfl)⟩ [0, 17, 18] [1, 2, 3, 4, 5, 6, 7, 8, 9, 10, 11, 12, 13, 14, 15, 16, 19, 20, 21, 22, 23, 24, 25, 26, 27, 28, 29, 30, 31] rfl rfl rfl (by decide) rfl rfl rfl rfl rfl hl.1 (Nat.le_of_ble_eq_true rfl) dL_law_1810 ⟨(Nat.le_of_ble_eq_true rfl), (Nat.le_of_ble_eq_true rfl)⟩ (fun r_w u_w H locs hw hP hD hS => ?_)
  have hP : va_P g.1 vwCl (wX6 qX AX ++ wX1 g (AX 0) AC σC ++ wX1 g (AX 1) AD σD ++ wX3 g (AX 3) AP σP_2 ++ wX2 (AX 4) σN ++ wX5 g (AX 5) AW (.ref qH) σW ++ wX4 g (AX 6) AY σY ++ wX0 g (AX 7) AK σK ℓK ++ wH g qH σH) H := hP.sub [29, 0, 1, 2, 3, 4, 5, 6, 7, 8, 9, 10, 11, 12, 13, 14, 15, 30, 31, 16, 17, 18, 19, 20, 21, 22, 23, 24, 25, 26, 27, 28] rfl
  have hD : va_D Z (wX6 qX AX ++ wX1 g (AX 0) AC σC ++ wX1 g (AX 1) AD σD ++ wX3 g (AX 3) AP σP_2 ++ wX2 (AX 4) σN ++ wX5 g (AX 5) AW (.ref qH) σW ++ wX4 g (AX 6) AY σY ++ wX0 g (AX 7) AK σK ℓK ++ wH g qH σH) := hD.sub [29, 0, 1, 2, 3, 4, 5, 6, 7, 8, 9, 10, 11, 12, 13, 14, 15, 30, 31, 16, 17, 18, 19, 20, 21, 22, 23, 24, 25, 26, 27, 28] (by decide) rfl
  obtain rfl : r_1 = r_w := hw.symm
  refine lv_iconst (v := 1) hx hb dL_law_1813 (by decide) ?_
  refine lv_icmp_ne (tgt := 1864) hx hb dL_law_1814 (by decide) (fun c_5 => ?_) (fun c_5 => ?_)
  · have hF := q_if_f c_5 hF
    refine lv_iconst (v := 0) hx hb dL_law_1864 (by decide) ?_
    exact absurd hF (by decide)
  · have hF := q_if_t (by first | exact c_5 | exact Classical.not_not.mp c_5) hF
    refine lv_aload_n hx hb dL_law_1817 rfl (lv_at hl 1 rfl) ?_
    refine lv_iconst (v := 0) hx hb dL_law_1818 (by decide) ?_
    obtain ⟨⟨r_6, σN_7, σD_8⟩, h_9, hF⟩ := q_cl_s hF
    try dsimp only at hF
    refine gcV_i (As := [.int 0]) (rest := []) (ci := 6) (q := (RX6, TX6, 8)) F hK hN hP hD hS hA (m_X6_judge l g H.size qX AX σN AP σP_2 AD σD AC σC (0 : Int32) r_6 σN_7 σD_8 h_9) gL_law_X6_judge kX6_judge rfl rfl rfl rfl ⟨(Nat.le_of_ble_eq_true rfl), (Nat.le_of_ble_eq_true rfl)⟩ [0, 19, 17, 18, 9, 10, 11, 12, 13, 14, 15, 16, 1, 2, 3, 4, 5, 6, 7, 8] [20, 21, 22, 23, 24, 25, 26, 27, 28, 29, 30, 31] rfl rfl rfl (by decide) rfl rfl rfl rfl rfl hl.1 (Nat.le_of_ble_eq_true rfl) dL_law_1819 ⟨(Nat.le_of_ble_eq_true rfl), (Nat.le_of_ble_eq_true rfl)⟩ (fun r_w u_w H locs hw hP hD hS => ?_)
    have hP : va_P g.1 vwCl (wX6 qX AX ++ wX1 g (AX 0) AC σC ++ wX1 g (AX 1) AD σD_8 ++ wX3 g (AX 3) AP σP_2 ++ wX2 (AX 4) σN_7 ++ wX5 g (AX 5) AW (.ref qH) σW ++ wX4 g (AX 6) AY σY ++ wX0 g (AX 7) AK σK ℓK ++ wH g qH σH) H := hP.sub [12, 24, 25, 26, 27, 28, 29, 30, 31, 16, 17, 18, 19, 20, 21, 22, 23, 14, 15, 13, 0, 1, 2, 3, 4, 5, 6, 7, 8, 9, 10, 11] rfl
    have hD : va_D Z (wX6 qX AX ++ wX1 g (AX 0) AC σC ++ wX1 g (AX 1) AD σD_8 ++ wX3 g (AX 3) AP σP_2 ++ wX2 (AX 4) σN_7 ++ wX5 g (AX 5) AW (.ref qH) σW ++ wX4 g (AX 6) AY σY ++ wX0 g (AX 7) AK σK ℓK ++ wH g qH σH) := hD.sub [12, 24, 25, 26, 27, 28, 29, 30, 31, 16, 17, 18, 19, 20, 21, 22, 23, 14, 15, 13, 0, 1, 2, 3, 4, 5, 6, 7, 8, 9, 10, 11] (by decide) rfl
    obtain rfl : r_6 = r_w := hw.symm
    refine lv_if_ne (tgt := 1864) hx hb dL_law_1822 (by decide) (fun c_11 => ?_) (fun c_11 => ?_)
    · have hF := q_if_f c_11 hF
      refine lv_iconst (v := 0) hx hb dL_law_1864 (by decide) ?_
      exact absurd hF (by decide)
    · have hF := q_if_t (by first | exact c_11 | exact Classical.not_not.mp c_11) hF
      refine lv_aload_n hx hb dL_law_1825 rfl (lv_at hl 1 rfl) ?_
      refine lv_iconst (v := 1) hx hb dL_law_1826 (by decide) ?_
      obtain ⟨⟨r_12, σN_13, σD_14⟩, h_15, hF⟩ := q_cl_s hF
      try dsimp only at hF
      refine gcV_i (As := [.int 1]) (rest := []) (ci := 6) (q := (RX6, TX6, 8)) F hK hN hP hD hS hA (m_X6_judge l g H.size qX AX σN_7 AP σP_2 AD σD_8 AC σC (1 : Int32) r_12 σN_13 σD_14 h_15) gL_law_X6_judge kX6_judge rfl rfl rfl rfl ⟨(Nat.le_of_ble_eq_true rfl), (Nat.le_of_ble_eq_true rfl)⟩ [0, 19, 17, 18, 9, 10, 11, 12, 13, 14, 15, 16, 1, 2, 3, 4, 5, 6, 7, 8] [20, 21, 22, 23, 24, 25, 26, 27, 28, 29, 30, 31] rfl rfl rfl (by decide) rfl rfl rfl rfl rfl hl.1 (Nat.le_of_ble_eq_true rfl) dL_law_1827 ⟨(Nat.le_of_ble_eq_true rfl), (Nat.le_of_ble_eq_true rfl)⟩ (fun r_w u_w H locs hw hP hD hS => ?_)
      have hP : va_P g.1 vwCl (wX6 qX AX ++ wX1 g (AX 0) AC σC ++ wX1 g (AX 1) AD σD_14 ++ wX3 g (AX 3) AP σP_2 ++ wX2 (AX 4) σN_13 ++ wX5 g (AX 5) AW (.ref qH) σW ++ wX4 g (AX 6) AY σY ++ wX0 g (AX 7) AK σK ℓK ++ wH g qH σH) H := hP.sub [12, 24, 25, 26, 27, 28, 29, 30, 31, 16, 17, 18, 19, 20, 21, 22, 23, 14, 15, 13, 0, 1, 2, 3, 4, 5, 6, 7, 8, 9, 10, 11] rfl
      have hD : va_D Z (wX6 qX AX ++ wX1 g (AX 0) AC σC ++ wX1 g (AX 1) AD σD_14 ++ wX3 g (AX 3) AP σP_2 ++ wX2 (AX 4) σN_13 ++ wX5 g (AX 5) AW (.ref qH) σW ++ wX4 g (AX 6) AY σY ++ wX0 g (AX 7) AK σK ℓK ++ wH g qH σH) := hD.sub [12, 24, 25, 26, 27, 28, 29, 30, 31, 16, 17, 18, 19, 20, 21, 22, 23, 14, 15, 13, 0, 1, 2, 3, 4, 5, 6, 7, 8, 9, 10, 11] (by decide) rfl
      obtain rfl : r_12 = r_w := hw.symm
      refine lv_iconst (v := 4) hx hb dL_law_1830 (by decide) ?_
      refine lv_icmp_ne (tgt := 1864) hx hb dL_law_1831 (by decide) (fun c_17 => ?_) (fun c_17 => ?_)
      · have hF := q_if_f c_17 hF
        refine lv_iconst (v := 0) hx hb dL_law_1864 (by decide) ?_
        exact absurd hF (by decide)
      · have hF := q_if_t (by first | exact c_17 | exact Classical.not_not.mp c_17) hF
        refine lv_aload_n hx hb dL_law_1834 rfl (lv_at hl 1 rfl) ?_
        obtain ⟨⟨r_18, σN_19, σP_20, σD_21, σC_22⟩, h_23, hF⟩ := q_cl_s hF
        try dsimp only at hF
        refine gcV_i (As := []) (rest := []) (ci := 6) (q := (RX6, TX6, 8)) F hK hN hP hD hS hA (m_X6_done l g H.size qX AX σN_13 AP σP_2 AD σD_14 AC σC r_18 σN_19 σP_20 σD_21 σC_22 h_23) gL_law_X6_done kX6_done rfl rfl rfl rfl ⟨(Nat.le_of_ble_eq_true rfl), (Nat.le_of_ble_eq_true rfl)⟩ [0, 19, 17, 18, 9, 10, 11, 12, 13, 14, 15, 16, 1, 2, 3, 4, 5, 6, 7, 8] [20, 21, 22, 23, 24, 25, 26, 27, 28, 29, 30, 31] rfl rfl rfl (by decide) rfl rfl rfl rfl rfl hl.1 (Nat.le_of_ble_eq_true rfl) dL_law_1835 ⟨(Nat.le_of_ble_eq_true rfl), (Nat.le_of_ble_eq_true rfl)⟩ (fun r_w u_w H locs hw hP hD hS => ?_)
        have hP : va_P g.1 vwCl (wX6 qX AX ++ wX1 g (AX 0) AC σC_22 ++ wX1 g (AX 1) AD σD_21 ++ wX3 g (AX 3) AP σP_20 ++ wX2 (AX 4) σN_19 ++ wX5 g (AX 5) AW (.ref qH) σW ++ wX4 g (AX 6) AY σY ++ wX0 g (AX 7) AK σK ℓK ++ wH g qH σH) H := hP.sub [12, 24, 25, 26, 27, 28, 29, 30, 31, 16, 17, 18, 19, 20, 21, 22, 23, 14, 15, 13, 0, 1, 2, 3, 4, 5, 6, 7, 8, 9, 10, 11] rfl
        have hD : va_D Z (wX6 qX AX ++ wX1 g (AX 0) AC σC_22 ++ wX1 g (AX 1) AD σD_21 ++ wX3 g (AX 3) AP σP_20 ++ wX2 (AX 4) σN_19 ++ wX5 g (AX 5) AW (.ref qH) σW ++ wX4 g (AX 6) AY σY ++ wX0 g (AX 7) AK σK ℓK ++ wH g qH σH) := hD.sub [12, 24, 25, 26, 27, 28, 29, 30, 31, 16, 17, 18, 19, 20, 21, 22, 23, 14, 15, 13, 0, 1, 2, 3, 4, 5, 6, 7, 8, 9, 10, 11] (by decide) rfl
        obtain rfl : r_18 = r_w := hw.symm
        refine lv_bipush (v := (-3)) hx hb dL_law_1838 (by decide) ?_
        refine lv_icmp_ne (tgt := 1864) hx hb dL_law_1840 (by decide) (fun c_25 => ?_) (fun c_25 => ?_)
        · have hF := q_if_f c_25 hF
          refine lv_iconst (v := 0) hx hb dL_law_1864 (by decide) ?_
          exact absurd hF (by decide)
        · have hF := q_if_t (by first | exact c_25 | exact Classical.not_not.mp c_25) hF
          refine lv_aload_n hx hb dL_law_1843 rfl (lv_at hl 1 rfl) ?_
          obtain ⟨⟨r_26, σP_27⟩, h_28, hF⟩ := q_cl_s hF
          try dsimp only at hF
          refine gcV_i (As := []) (rest := []) (ci := 6) (q := (RX6, TX6, 8)) F hK hN hP hD hS hA (m_X6_wipe l g H.size qX AX AP σP_20 r_26 σP_27 h_28) gL_law_X6_wipe kX6_wipe rfl rfl rfl rfl ⟨(Nat.le_of_ble_eq_true rfl), (Nat.le_of_ble_eq_true rfl)⟩ [0, 17, 18] [1, 2, 3, 4, 5, 6, 7, 8, 9, 10, 11, 12, 13, 14, 15, 16, 19, 20, 21, 22, 23, 24, 25, 26, 27, 28, 29, 30, 31] rfl rfl rfl (by decide) rfl rfl rfl rfl rfl hl.1 (Nat.le_of_ble_eq_true rfl) dL_law_1844 ⟨(Nat.le_of_ble_eq_true rfl), (Nat.le_of_ble_eq_true rfl)⟩ (fun r_w u_w H locs hw hP hD hS => ?_)
          have hP : va_P g.1 vwCl (wX6 qX AX ++ wX1 g (AX 0) AC σC_22 ++ wX1 g (AX 1) AD σD_21 ++ wX3 g (AX 3) AP σP_27 ++ wX2 (AX 4) σN_19 ++ wX5 g (AX 5) AW (.ref qH) σW ++ wX4 g (AX 6) AY σY ++ wX0 g (AX 7) AK σK ℓK ++ wH g qH σH) H := hP.sub [29, 0, 1, 2, 3, 4, 5, 6, 7, 8, 9, 10, 11, 12, 13, 14, 15, 30, 31, 16, 17, 18, 19, 20, 21, 22, 23, 24, 25, 26, 27, 28] rfl
          have hD : va_D Z (wX6 qX AX ++ wX1 g (AX 0) AC σC_22 ++ wX1 g (AX 1) AD σD_21 ++ wX3 g (AX 3) AP σP_27 ++ wX2 (AX 4) σN_19 ++ wX5 g (AX 5) AW (.ref qH) σW ++ wX4 g (AX 6) AY σY ++ wX0 g (AX 7) AK σK ℓK ++ wH g qH σH) := hD.sub [29, 0, 1, 2, 3, 4, 5, 6, 7, 8, 9, 10, 11, 12, 13, 14, 15, 30, 31, 16, 17, 18, 19, 20, 21, 22, 23, 24, 25, 26, 27, 28] (by decide) rfl
          obtain rfl : r_26 = r_w := hw.symm
          refine lv_iconst (v := 1) hx hb dL_law_1847 (by decide) ?_
          refine lv_icmp_ne (tgt := 1864) hx hb dL_law_1848 (by decide) (fun c_30 => ?_) (fun c_30 => ?_)
          · have hF := q_if_f c_30 hF
            refine lv_iconst (v := 0) hx hb dL_law_1864 (by decide) ?_
            exact absurd hF (by decide)
          · have hF := q_if_t (by first | exact c_30 | exact Classical.not_not.mp c_30) hF
            refine lv_aload_n hx hb dL_law_1851 rfl (lv_at hl 1 rfl) ?_
            refine lv_iconst (v := 3) hx hb dL_law_1852 (by decide) ?_
            obtain ⟨r_31, h_32, hF⟩ := q_cl_s hF
            refine gcV_i (As := [.int 3]) (rest := []) (ci := 6) (q := (RX6, TX6, 8)) F hK hN hP hD hS hA (m_X6_told l g H.size qX AX AP σP_27 AC σC_22 (3 : Int32) r_31 h_32) gL_law_X6_told kX6_told rfl rfl rfl rfl ⟨(Nat.le_of_ble_eq_true rfl), (Nat.le_of_ble_eq_true rfl)⟩ [0, 17, 18, 1, 2, 3, 4, 5, 6, 7, 8] [9, 10, 11, 12, 13, 14, 15, 16, 19, 20, 21, 22, 23, 24, 25, 26, 27, 28, 29, 30, 31] rfl rfl rfl (by decide) rfl rfl rfl rfl rfl hl.1 (Nat.le_of_ble_eq_true rfl) dL_law_1853 ⟨(Nat.le_of_ble_eq_true rfl), (Nat.le_of_ble_eq_true rfl)⟩ (fun r_w u_w H locs hw hP hD hS => ?_)
            have hP : va_P g.1 vwCl (wX6 qX AX ++ wX1 g (AX 0) AC σC_22 ++ wX1 g (AX 1) AD σD_21 ++ wX3 g (AX 3) AP σP_27 ++ wX2 (AX 4) σN_19 ++ wX5 g (AX 5) AW (.ref qH) σW ++ wX4 g (AX 6) AY σY ++ wX0 g (AX 7) AK σK ℓK ++ wH g qH σH) H := hP.sub [21, 24, 25, 26, 27, 28, 29, 30, 31, 0, 1, 2, 3, 4, 5, 6, 7, 22, 23, 8, 9, 10, 11, 12, 13, 14, 15, 16, 17, 18, 19, 20] rfl
            have hD : va_D Z (wX6 qX AX ++ wX1 g (AX 0) AC σC_22 ++ wX1 g (AX 1) AD σD_21 ++ wX3 g (AX 3) AP σP_27 ++ wX2 (AX 4) σN_19 ++ wX5 g (AX 5) AW (.ref qH) σW ++ wX4 g (AX 6) AY σY ++ wX0 g (AX 7) AK σK ℓK ++ wH g qH σH) := hD.sub [21, 24, 25, 26, 27, 28, 29, 30, 31, 0, 1, 2, 3, 4, 5, 6, 7, 22, 23, 8, 9, 10, 11, 12, 13, 14, 15, 16, 17, 18, 19, 20] (by decide) rfl
            obtain rfl : r_31 = r_w := hw.symm
            refine lv_bipush (v := 57) hx hb dL_law_1856 (by decide) ?_
            refine lv_iload hx hb dL_law_1858 (lv_at hl 6 rfl) ?_
            obtain ⟨n_33, hF⟩ := q_nz_s hF
            refine lv_irem hx hb dL_law_1860 n_33 ?_
            refine lv_icmp_eq (tgt := 1866) hx hb dL_law_1861 (by decide) (fun c_34 => ?_) (fun c_34 => ?_)
            · have hF := q_if_t c_34 hF
              exact gs_1866 hx hb hr hlocks F hK hN hA hZ hbA hX hbl hF hP hD hS (lv_sub hl [0, 1, 2, 3, 4, 5] rfl)
            · have hF := q_if_f c_34 hF
              refine lv_iconst (v := 0) hx hb dL_law_1864 (by decide) ?_
              exact absurd hF (by decide)
