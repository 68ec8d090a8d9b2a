set_option maxHeartbeats 8000000 in
set_option maxRecDepth 100000 in
theorem gs_1866 {p : Program} {l : Launch} {e : Env} {s : State} {m : MethodId} {below : List Frame} {meth : Method} {c : Code} {b : Nat} {g : GT} {Z : Nat → Prop} {H : Heap} {locs : List Loc} {ls : Array Slot} {qH qX : Nat} {AX AC AD AP AW AY AK : Nat → Nat} {L : Nat} {xs : Nat → Int32} {σC : qS} {σD : qS} {σP : qS} {σN : qS} {σW : qS} {σY : qS} {σK : qS} {ℓK : qL} {σH : qS} {v2 : Int32} {v4 : Int32} {v7 : Int32} {v9 : Int32}
    (hx : p.tables.exec = Jvm.exec) (hb : c.code = cL_law) (hr : meth.sig.returnType = ret) (hlocks : meth.locks = false) (F : CallFix p m c cL_law 30 s #[Value.ref b] wsL_law RL) (hK : va_K g.1 vwCl (tyL g) s) (hN : NW s) (hA : ∀ q : Nat, s.heap.size ≤ q → Z q) (hZ : Z = fun q => s.heap.size ≤ q) (hbA : ¬ Z b) (hX : va_X b L xs s s.heap) (hbl : b < s.heap.size) (hF : g_1866 L xs σC σD σP σN σW σY σK ℓK σH v2 v4 v7 v9 = some 1)
    (hP : va_P g.1 vwCl (wX6 qX AX ++ wX1 g (AX 0) AC σC ++ wX1 g (AX 1) AD σD ++ wX3 g (AX 3) AP σP ++ wX2 (AX 4) σN ++ wX5 g (AX 5) AW (.ref qH) σW ++ wX4 g (AX 6) AY σY ++ wX0 g (AX 7) AK σK ℓK ++ wH g qH σH) H) (hD : va_D Z (wX6 qX AX ++ wX1 g (AX 0) AC σC ++ wX1 g (AX 1) AD σD ++ wX3 g (AX 3) AP σP ++ wX2 (AX 4) σN ++ wX5 g (AX 5) AW (.ref qH) σW ++ wX4 g (AX 6) AY σY ++ wX0 g (AX 7) AK σK ℓK ++ wH g qH σH)) (hS : va_S Z s.heap H locs) (hl : lv_has ls 30 [(0, .ref b), (1, .ref qX), (2, .int v2), (4, .int v4), (7, .int v7), (9, .int v9)]) : W p l e room_1 s m #[Value.ref b] below meth c H locs 200 40000 (lw_Z below #[Value.ref b] s) (F0 m 1866 ls []) := by
  have hts := F.2.2.2.2
  have hown : s.vm.findClass RL = some m.cls := F.2.2.2.1
  dsimp only [g_1866] at hF
  refine lv_aload_n hx hb dL_law_1866 rfl (lv_at hl 0 rfl) ?_
  refine lv_bipush (v := 6) hx hb dL_law_1867 (by decide) ?_
  refine lv_bipush (v := 10) hx hb dL_law_1869 (by decide) ?_
  obtain ⟨r_1, h_2, hF⟩ := q_cl_s hF
  refine gcX (As := [.ref b, .int 6, .int 10]) (rest := []) F hX hbl hbA hS (m_L_cell l b L xs (6 : Int32) (10 : Int32) r_1 h_2) gL_law_L_cell kL_cell rfl rfl rfl ⟨(Nat.le_of_ble_eq_true rfl), (Nat.le_of_ble_eq_true rfl)⟩ rfl rfl hl.1 (Nat.le_of_ble_eq_true rfl) dL_law_1871 ⟨(Nat.le_of_ble_eq_true rfl), (Nat.le_of_ble_eq_true rfl)⟩ ?_
  refine lv_istore (lv' := [(18, .int r_1), (0, .ref b), (1, .ref qX), (2, .int v2), (4, .int v4), (7, .int v7), (9, .int v9)]) hx hb dL_law_1874 hl (by decide) rfl (fun ls hl => ?_)
  refine lv_iconst (v := 1) hx hb dL_law_1876 (by decide) ?_
  refine lv_aload_n hx hb dL_law_1877 rfl (lv_at hl 1 rfl) ?_
  refine lv_bipush (v := 7) hx hb dL_law_1878 (by decide) ?_
  refine lv_iconst (v := 5) hx hb dL_law_1880 (by decide) ?_
  obtain ⟨r_3, h_4, hF⟩ := q_cl_s hF
  refine gcX (As := [.ref b, .int 7, .int 5]) (rest := [.int 1]) F hX hbl hbA hS (m_L_cell l b L xs (7 : Int32) (5 : Int32) r_3 h_4) gL_law_L_cell kL_cell rfl rfl rfl ⟨(Nat.le_of_ble_eq_true rfl), (Nat.le_of_ble_eq_true rfl)⟩ rfl rfl hl.1 (Nat.le_of_ble_eq_true rfl) dL_law_1881 ⟨(Nat.le_of_ble_eq_true rfl), (Nat.le_of_ble_eq_true rfl)⟩ ?_
  refine lv_iadd hx hb dL_law_1884 ?_
  obtain ⟨v19_5, e_6, hF⟩ := q_bd_s hF
  refine gtop e_6 ?_
  refine lv_istore (lv' := [(19, .int v19_5), (18, .int r_1), (0, .ref b), (1, .ref qX), (2, .int v2), (4, .int v4), (7, .int v7), (9, .int v9)]) hx hb dL_law_1885 hl (by decide) rfl (fun ls hl => ?_)
  refine lv_iconst (v := 0) hx hb dL_law_1887 (by decide) ?_
  refine lv_istore (lv' := [(20, .int 0), (19, .int v19_5), (18, .int r_1), (0, .ref b), (1, .ref qX), (2, .int v2), (4, .int v4), (7, .int v7), (9, .int v9)]) hx hb dL_law_1888 hl (by decide) rfl (fun ls hl => ?_)
  refine lv_aload_n hx hb dL_law_1890 rfl (lv_at hl 4 rfl) ?_
  refine lv_iconst (v := (-1)) hx hb dL_law_1891 (by decide) ?_
  obtain ⟨⟨r_7, σY_8⟩, h_9, hF⟩ := q_cl_s hF
  try dsimp only at hF
  refine gcV_i (As := [.int (-1)]) (rest := []) (ci := 6) (q := (RX6, TX6, 8)) F hK hN hP hD hS hA (m_X6_fits l g H.size qX AX AY σY AC σC (-1 : Int32) r_7 σY_8 h_9) gL_law_X6_fits kX6_fits rfl rfl rfl rfl ⟨(Nat.le_of_ble_eq_true rfl), (Nat.le_of_ble_eq_true rfl)⟩ [0, 23, 24, 25, 26, 1, 2, 3, 4, 5, 6, 7, 8] [9, 10, 11, 12, 13, 14, 15, 16, 17, 18, 19, 20, 21, 22, 27, 28, 29, 30, 31] rfl rfl rfl (by decide) rfl rfl rfl rfl rfl hl.1 (Nat.le_of_ble_eq_true rfl) dL_law_1892 ⟨(Nat.le_of_ble_eq_true rfl), (Nat.le_of_ble_eq_true rfl)⟩ (fun r_w u_w H locs hw hP hD hS => ?_)
  have hP : va_P g.1 vwCl (wX6 qX AX ++ wX1 g (AX 0) AC σC ++ wX1 g (AX 1) AD σD ++ wX3 g (AX 3) AP σP ++ wX2 (AX 4) σN ++ wX5 g (AX 5) AW (.ref qH) σW ++ wX4 g (AX 6) AY σY_8 ++ wX0 g (AX 7) AK σK ℓK ++ wH g qH σH) H := hP.sub [19, 24, 25, 26, 27, 28, 29, 30, 31, 0, 1, 2, 3, 4, 5, 6, 7, 8, 9, 10, 11, 12, 13, 20, 21, 22, 23, 14, 15, 16, 17, 18] rfl
  have hD : va_D Z (wX6 qX AX ++ wX1 g (AX 0) AC σC ++ wX1 g (AX 1) AD σD ++ wX3 g (AX 3) AP σP ++ wX2 (AX 4) σN ++ wX5 g (AX 5) AW (.ref qH) σW ++ wX4 g (AX 6) AY σY_8 ++ wX0 g (AX 7) AK σK ℓK ++ wH g qH σH) := hD.sub [19, 24, 25, 26, 27, 28, 29, 30, 31, 0, 1, 2, 3, 4, 5, 6, 7, 8, 9, 10, 11, 12, 13, 20, 21, 22, 23, 14, 15, 16, 17, 18] (by decide) rfl
  obtain rfl : r_7 = r_w := hw.symm
  refine lv_istore (lv' := [(21, .int r_7), (20, .int 0), (19, .int v19_5), (18, .int r_1), (0, .ref b), (1, .ref qX), (2, .int v2), (4, .int v4), (7, .int v7), (9, .int v9)]) hx hb dL_law_1895 hl (by decide) rfl (fun ls hl => ?_)
  refine q_loop (fun u0 => wX6 qX AX ++ wX1 g (AX 0) AC u0.2.2.2 ++ wX1 g (AX 1) AD σD ++ wX3 g (AX 3) AP σP ++ wX2 (AX 4) σN ++ wX5 g (AX 5) AW (.ref qH) σW ++ wX4 g (AX 6) AY u0.1 ++ wX0 g (AX 7) AK σK ℓK ++ wH g qH σH) (fun u0 => [(21, .int u0.2.1), (20, .int u0.2.2.1), (19, .int v19_5), (18, .int r_1), (0, .ref b), (1, .ref qX), (2, .int v2), (4, .int v4), (7, .int v7), (9, .int v9)]) 2028 hF ?_ ?_ hP hD hS (lv_sub hl [0, 1, 2, 3, 4, 5, 6, 7, 8, 9] rfl)
  · rintro ⟨σY_11, v21_11, v20_11, σC_11⟩ hF H locs ls hP hD hS hl
    try dsimp only at hF
    have hP : va_P g.1 vwCl (wX6 qX AX ++ wX1 g (AX 0) AC σC_11 ++ wX1 g (AX 1) AD σD ++ wX3 g (AX 3) AP σP ++ wX2 (AX 4) σN ++ wX5 g (AX 5) AW (.ref qH) σW ++ wX4 g (AX 6) AY σY_11 ++ wX0 g (AX 7) AK σK ℓK ++ wH g qH σH) H := hP
    have hD : va_D Z (wX6 qX AX ++ wX1 g (AX 0) AC σC_11 ++ wX1 g (AX 1) AD σD ++ wX3 g (AX 3) AP σP ++ wX2 (AX 4) σN ++ wX5 g (AX 5) AW (.ref qH) σW ++ wX4 g (AX 6) AY σY_11 ++ wX0 g (AX 7) AK σK ℓK ++ wH g qH σH) := hD
    have hl : lv_has ls 30 [(21, .int v21_11), (20, .int v20_11), (19, .int v19_5), (18, .int r_1), (0, .ref b), (1, .ref qX), (2, .int v2), (4, .int v4), (7, .int v7), (9, .int v9)] := hl
    exact gs_2028 hx hb hr hlocks F hK hN hA hZ hbA hX hbl hF hP hD hS (lv_sub hl [4, 5, 6, 7, 8, 9, 3, 2, 1, 0] rfl)
  · rintro k again kk ag ⟨σY_11, v21_11, v20_11, σC_11⟩ hF H locs ls hP hD hS hl
    dsimp only [b_L_law_1897] at hF
    have hP : va_P g.1 vwCl (wX6 qX AX ++ wX1 g (AX 0) AC σC_11 ++ wX1 g (AX 1) AD σD ++ wX3 g (AX 3) AP σP ++ wX2 (AX 4) σN ++ wX5 g (AX 5) AW (.ref qH) σW ++ wX4 g (AX 6) AY σY_11 ++ wX0 g (AX 7) AK σK ℓK ++ wH g qH σH) H := hP
    have hD : va_D Z (wX6 qX AX ++ wX1 g (AX 0) AC σC_11 ++ wX1 g (AX 1) AD σD ++ wX3 g (AX 3) AP σP ++ wX2 (AX 4) σN ++ wX5 g (AX 5) AW (.ref qH) σW ++ wX4 g (AX 6) AY σY_11 ++ wX0 g (AX 7) AK σK ℓK ++ wH g qH σH) := hD
    have hl : lv_has ls 30 [(21, .int v21_11), (20, .int v20_11), (19, .int v19_5), (18, .int r_1), (0, .ref b), (1, .ref qX), (2, .int v2), (4, .int v4), (7, .int v7), (9, .int v9)] := hl
    refine lv_iload hx hb dL_law_1897 (lv_at hl 1 rfl) ?_
    refine lv_bipush (v := 8) hx hb dL_law_1899 (by decide) ?_
    refine lv_icmp_ge (tgt := 2028) hx hb dL_law_1901 (by decide) (fun c_12 => ?_) (fun c_12 => ?_)
    · have hF := q_if_t c_12 hF
      exact kk (σY_11, v21_11, v20_11, σC_11) hF _ _ _ hP hD hS (lv_sub hl [0, 1, 2, 3, 4, 5, 6, 7, 8, 9] rfl)
    · have hF := q_if_f c_12 hF
      refine lv_aload_n hx hb dL_law_1904 rfl (lv_at hl 5 rfl) ?_
      refine lv_iconst (v := 1) hx hb dL_law_1905 (by decide) ?_
      obtain ⟨⟨r_13, σY_14⟩, h_15, hF⟩ := q_cl_s hF
      try dsimp only at hF
      refine gcV_i (As := [.int 1]) (rest := []) (ci := 6) (q := (RX6, TX6, 8)) F hK hN hP hD hS hA (m_X6_ask l g H.size qX AX AY σY_11 AC σC_11 (1 : Int32) r_13 σY_14 h_15) gL_law_X6_ask kX6_ask rfl rfl rfl rfl ⟨(Nat.le_of_ble_eq_true rfl), (Nat.le_of_ble_eq_true rfl)⟩ [0, 23, 24, 25, 26, 1, 2, 3, 4, 5, 6, 7, 8] [9, 10, 11, 12, 13, 14, 15, 16, 17, 18, 19, 20, 21, 22, 27, 28, 29, 30, 31] rfl rfl rfl (by decide) rfl rfl rfl rfl rfl hl.1 (Nat.le_of_ble_eq_true rfl) dL_law_1906 ⟨(Nat.le_of_ble_eq_true rfl), (Nat.le_of_ble_eq_true rfl)⟩ (fun r_w u_w H locs hw hP hD hS => ?_)
      have hP : va_P g.1 vwCl (wX6 qX AX ++ wX1 g (AX 0) AC σC_11 ++ wX1 g (AX 1) AD σD ++ wX3 g (AX 3) AP σP ++ wX2 (AX 4) σN ++ wX5 g (AX 5) AW (.ref qH) σW ++ wX4 g (AX 6) AY σY_14 ++ wX0 g (AX 7) AK σK ℓK ++ wH g qH σH) H := hP.sub [19, 24, 25, 26, 27, 28, 29, 30, 31, 0, 1, 2, 3, 4, 5, 6, 7, 8, 9, 10, 11, 12, 13, 20, 21, 22, 23, 14, 15, 16, 17, 18] rfl
      have hD : va_D Z (wX6 qX AX ++ wX1 g (AX 0) AC σC_11 ++ wX1 g (AX 1) AD σD ++ wX3 g (AX 3) AP σP ++ wX2 (AX 4) σN ++ wX5 g (AX 5) AW (.ref qH) σW ++ wX4 g (AX 6) AY σY_14 ++ wX0 g (AX 7) AK σK ℓK ++ wH g qH σH) := hD.sub [19, 24, 25, 26, 27, 28, 29, 30, 31, 0, 1, 2, 3, 4, 5, 6, 7, 8, 9, 10, 11, 12, 13, 20, 21, 22, 23, 14, 15, 16, 17, 18] (by decide) rfl
      obtain rfl : r_13 = r_w := hw.symm
      refine lv_iload hx hb dL_law_1909 (lv_at hl 0 rfl) ?_
      refine lv_icmp_ge (tgt := 2028) hx hb dL_law_1911 (by decide) (fun c_17 => ?_) (fun c_17 => ?_)
      · have hF := q_if_t c_17 hF
        exact kk (σY_14, v21_11, v20_11, σC_11) hF _ _ _ hP hD hS (lv_sub hl [0, 1, 2, 3, 4, 5, 6, 7, 8, 9] rfl)
      · have hF := q_if_f c_17 hF
        refine lv_aload_n hx hb dL_law_1914 rfl (lv_at hl 5 rfl) ?_
        refine lv_iconst (v := 0) hx hb dL_law_1915 (by decide) ?_
        obtain ⟨⟨r_18, σY_19⟩, h_20, hF⟩ := q_cl_s hF
        try dsimp only at hF
        refine gcV_i (As := [.int 0]) (rest := []) (ci := 6) (q := (RX6, TX6, 8)) F hK hN hP hD hS hA (m_X6_ask l g H.size qX AX AY σY_14 AC σC_11 (0 : Int32) r_18 σY_19 h_20) gL_law_X6_ask kX6_ask rfl rfl rfl rfl ⟨(Nat.le_of_ble_eq_true rfl), (Nat.le_of_ble_eq_true rfl)⟩ [0, 23, 24, 25, 26, 1, 2, 3, 4, 5, 6, 7, 8] [9, 10, 11, 12, 13, 14, 15, 16, 17, 18, 19, 20, 21, 22, 27, 28, 29, 30, 31] rfl rfl rfl (by decide) rfl rfl rfl rfl rfl hl.1 (Nat.le_of_ble_eq_true rfl) dL_law_1916 ⟨(Nat.le_of_ble_eq_true rfl), (Nat.le_of_ble_eq_true rfl)⟩ (fun r_w u_w H locs hw hP hD hS => ?_)
        have hP : va_P g.1 vwCl (wX6 qX AX ++ wX1 g (AX 0) AC σC_11 ++ wX1 g (AX 1) AD σD ++ wX3 g (AX 3) AP σP ++ wX2 (AX 4) σN ++ wX5 g (AX 5) AW (.ref qH) σW ++ wX4 g (AX 6) AY σY_19 ++ wX0 g (AX 7) AK σK ℓK ++ wH g qH σH) H := hP.sub [19, 24, 25, 26, 27, 28, 29, 30, 31, 0, 1, 2, 3, 4, 5, 6, 7, 8, 9, 10, 11, 12, 13, 20, 21, 22, 23, 14, 15, 16, 17, 18] rfl
        have hD : va_D Z (wX6 qX AX ++ wX1 g (AX 0) AC σC_11 ++ wX1 g (AX 1) AD σD ++ wX3 g (AX 3) AP σP ++ wX2 (AX 4) σN ++ wX5 g (AX 5) AW (.ref qH) σW ++ wX4 g (AX 6) AY σY_19 ++ wX0 g (AX 7) AK σK ℓK ++ wH g qH σH) := hD.sub [19, 24, 25, 26, 27, 28, 29, 30, 31, 0, 1, 2, 3, 4, 5, 6, 7, 8, 9, 10, 11, 12, 13, 20, 21, 22, 23, 14, 15, 16, 17, 18] (by decide) rfl
        obtain rfl : r_18 = r_w := hw.symm
        refine lv_istore (lv' := [(22, .int r_18), (21, .int v21_11), (20, .int v20_11), (19, .int v19_5), (18, .int r_1), (0, .ref b), (1, .ref qX), (2, .int v2), (4, .int v4), (7, .int v7), (9, .int v9)]) hx hb dL_law_1919 hl (by decide) rfl (fun ls hl => ?_)
        refine lv_aload_n hx hb dL_law_1921 rfl (lv_at hl 6 rfl) ?_
        refine lv_iconst (v := 1) hx hb dL_law_1922 (by decide) ?_
        obtain ⟨⟨r_22, σY_23⟩, h_24, hF⟩ := q_cl_s hF
        try dsimp only at hF
        refine gcV_i (As := [.int 1]) (rest := []) (ci := 6) (q := (RX6, TX6, 8)) F hK hN hP hD hS hA (m_X6_ask l g H.size qX AX AY σY_19 AC σC_11 (1 : Int32) r_22 σY_23 h_24) gL_law_X6_ask kX6_ask rfl rfl rfl rfl ⟨(Nat.le_of_ble_eq_true rfl), (Nat.le_of_ble_eq_true rfl)⟩ [0, 23, 24, 25, 26, 1, 2, 3, 4, 5, 6, 7, 8] [9, 10, 11, 12, 13, 14, 15, 16, 17, 18, 19, 20, 21, 22, 27, 28, 29, 30, 31] rfl rfl rfl (by decide) rfl rfl rfl rfl rfl hl.1 (Nat.le_of_ble_eq_true rfl) dL_law_1923 ⟨(Nat.le_of_ble_eq_true rfl), (Nat.le_of_ble_eq_true rfl)⟩ (fun r_w u_w H locs hw hP hD hS => ?_)
        have hP : va_P g.1 vwCl (wX6 qX AX ++ wX1 g (AX 0) AC σC_11 ++ wX1 g (AX 1) AD σD ++ wX3 g (AX 3) AP σP ++ wX2 (AX 4) σN ++ wX5 g (AX 5) AW (.ref qH) σW ++ wX4 g (AX 6) AY σY_23 ++ wX0 g (AX 7) AK σK ℓK ++ wH g qH σH) H := hP.sub [19, 24, 25, 26, 27, 28, 29, 30, 31, 0, 1, 2, 3, 4, 5, 6, 7, 8, 9, 10, 11, 12, 13, 20, 21, 22, 23, 14, 15, 16, 17, 18] rfl
        have hD : va_D Z (wX6 qX AX ++ wX1 g (AX 0) AC σC_11 ++ wX1 g (AX 1) AD σD ++ wX3 g (AX 3) AP σP ++ wX2 (AX 4) σN ++ wX5 g (AX 5) AW (.ref qH) σW ++ wX4 g (AX 6) AY σY_23 ++ wX0 g (AX 7) AK σK ℓK ++ wH g qH σH) := hD.sub [19, 24, 25, 26, 27, 28, 29, 30, 31, 0, 1, 2, 3, 4, 5, 6, 7, 8, 9, 10, 11, 12, 13, 20, 21, 22, 23, 14, 15, 16, 17, 18] (by decide) rfl
        obtain rfl : r_22 = r_w := hw.symm
        refine lv_istore (lv' := [(23, .int r_22), (22, .int r_18), (21, .int v21_11), (20, .int v20_11), (19, .int v19_5), (18, .int r_1), (0, .ref b), (1, .ref qX), (2, .int v2), (4, .int v4), (7, .int v7), (9, .int v9)]) hx hb dL_law_1926 hl (by decide) rfl (fun ls hl => ?_)
        refine lv_iinc (v := v20_11 + 1) (lv' := [(20, .int (v20_11 + 1)), (23, .int r_22), (22, .int r_18), (21, .int v21_11), (19, .int v19_5), (18, .int r_1), (0, .ref b), (1, .ref qX), (2, .int v2), (4, .int v4), (7, .int v7), (9, .int v9)]) hx hb dL_law_1928 hl (k := 3) rfl rfl (by decide) rfl (fun ls hl => ?_)
        refine lv_aload_n hx hb dL_law_1931 rfl (lv_at hl 7 rfl) ?_
        refine lv_iload hx hb dL_law_1932 (lv_at hl 2 rfl) ?_
        refine lv_aload_n hx hb dL_law_1934 rfl (lv_at hl 7 rfl) ?_
        refine lv_iload hx hb dL_law_1935 (lv_at hl 5 rfl) ?_
        refine lv_iload hx hb dL_law_1937 (lv_at hl 2 rfl) ?_
        refine lv_iload hx hb dL_law_1939 (lv_at hl 4 rfl) ?_
        obtain ⟨n_26, hF⟩ := q_nz_s hF
        refine lv_idiv hx hb dL_law_1941 n_26 ?_
        obtain ⟨r_27, h_28, hF⟩ := q_cl_s hF
        refine gcV_i (As := [.int r_1, .int (r_18 / v19_5)]) (rest := [.int r_18, .ref qX]) (ci := 6) (q := (RX6, TX6, 8)) F hK hN hP hD hS hA (m_X6_faded l g H.size qX AX AC σC_11 r_1 (r_18 / v19_5) r_27 h_28) gL_law_X6_faded kX6_faded rfl rfl rfl rfl ⟨(Nat.le_of_ble_eq_true rfl), (Nat.le_of_ble_eq_true rfl)⟩ [0, 1, 2, 3, 4, 5, 6, 7, 8] [9, 10, 11, 12, 13, 14, 15, 16, 17, 18, 19, 20, 21, 22, 23, 24, 25, 26, 27, 28, 29, 30, 31] rfl rfl rfl (by decide) rfl rfl rfl rfl rfl hl.1 (Nat.le_of_ble_eq_true rfl) dL_law_1942 ⟨(Nat.le_of_ble_eq_true rfl), (Nat.le_of_ble_eq_true rfl)⟩ (fun r_w u_w H locs hw hP hD hS => ?_)
        have hP : va_P g.1 vwCl (wX6 qX AX ++ wX1 g (AX 0) AC σC_11 ++ wX1 g (AX 1) AD σD ++ wX3 g (AX 3) AP σP ++ wX2 (AX 4) σN ++ wX5 g (AX 5) AW (.ref qH) σW ++ wX4 g (AX 6) AY σY_23 ++ wX0 g (AX 7) AK σK ℓK ++ wH g qH σH) H := hP.sub [23, 24, 25, 26, 27, 28, 29, 30, 31, 0, 1, 2, 3, 4, 5, 6, 7, 8, 9, 10, 11, 12, 13, 14, 15, 16, 17, 18, 19, 20, 21, 22] rfl
        have hD : va_D Z (wX6 qX AX ++ wX1 g (AX 0) AC σC_11 ++ wX1 g (AX 1) AD σD ++ wX3 g (AX 3) AP σP ++ wX2 (AX 4) σN ++ wX5 g (AX 5) AW (.ref qH) σW ++ wX4 g (AX 6) AY σY_23 ++ wX0 g (AX 7) AK σK ℓK ++ wH g qH σH) := hD.sub [23, 24, 25, 26, 27, 28, 29, 30, 31, 0, 1, 2, 3, 4, 5, 6, 7, 8, 9, 10, 11, 12, 13, 14, 15, 16, 17, 18, 19, 20, 21, 22] (by decide) rfl
        obtain rfl : r_27 = r_w := hw.symm
        obtain ⟨⟨r_29, σC_30⟩, h_31, hF⟩ := q_cl_s hF
        try dsimp only at hF
        refine gcV_i (As := [.int r_18, .int r_27]) (rest := []) (ci := 6) (q := (RX6, TX6, 8)) F hK hN hP hD hS hA (m_X6_seen l g H.size qX AX AC σC_11 r_18 r_27 r_29 σC_30 h_31) gL_law_X6_seen kX6_seen rfl rfl rfl rfl ⟨(Nat.le_of_ble_eq_true rfl), (Nat.le_of_ble_eq_true rfl)⟩ [0, 1, 2, 3, 4, 5, 6, 7, 8] [9, 10, 11, 12, 13, 14, 15, 16, 17, 18, 19, 20, 21, 22, 23, 24, 25, 26, 27, 28, 29, 30, 31] rfl rfl rfl (by decide) rfl rfl rfl rfl rfl hl.1 (Nat.le_of_ble_eq_true rfl) dL_law_1945 ⟨(Nat.le_of_ble_eq_true rfl), (Nat.le_of_ble_eq_true rfl)⟩ (fun r_w u_w H locs hw hP hD hS => ?_)
        have hP : va_P g.1 vwCl (wX6 qX AX ++ wX1 g (AX 0) AC σC_30 ++ wX1 g (AX 1) AD σD ++ wX3 g (AX 3) AP σP ++ wX2 (AX 4) σN ++ wX5 g (AX 5) AW (.ref qH) σW ++ wX4 g (AX 6) AY σY_23 ++ wX0 g (AX 7) AK σK ℓK ++ wH g qH σH) H := hP.sub [23, 24, 25, 26, 27, 28, 29, 30, 31, 0, 1, 2, 3, 4, 5, 6, 7, 8, 9, 10, 11, 12, 13, 14, 15, 16, 17, 18, 19, 20, 21, 22] rfl
        have hD : va_D Z (wX6 qX AX ++ wX1 g (AX 0) AC σC_30 ++ wX1 g (AX 1) AD σD ++ wX3 g (AX 3) AP σP ++ wX2 (AX 4) σN ++ wX5 g (AX 5) AW (.ref qH) σW ++ wX4 g (AX 6) AY σY_23 ++ wX0 g (AX 7) AK σK ℓK ++ wH g qH σH) := hD.sub [23, 24, 25, 26, 27, 28, 29, 30, 31, 0, 1, 2, 3, 4, 5, 6, 7, 8, 9, 10, 11, 12, 13, 14, 15, 16, 17, 18, 19, 20, 21, 22] (by decide) rfl
        obtain rfl : r_29 = r_w := hw.symm
        refine lv_iload hx hb dL_law_1948 (lv_at hl 0 rfl) ?_
        refine lv_icmp_ne (tgt := 1963) hx hb dL_law_1950 (by decide) (fun c_33 => ?_) (fun c_33 => ?_)
        · have hF := q_if_f c_33 hF
          refine lv_iconst (v := 0) hx hb dL_law_1963 (by decide) ?_
          exact absurd hF (by decide)
        · have hF := q_if_t (by first | exact c_33 | exact Classical.not_not.mp c_33) hF
          refine lv_aload_n hx hb dL_law_1953 rfl (lv_at hl 7 rfl) ?_
          refine lv_iconst (v := (-1)) hx hb dL_law_1954 (by decide) ?_
          obtain ⟨⟨r_34, σY_35⟩, h_36, hF⟩ := q_cl_s hF
          try dsimp only at hF
          refine gcV_i (As := [.int (-1)]) (rest := []) (ci := 6) (q := (RX6, TX6, 8)) F hK hN hP hD hS hA (m_X6_fits l g H.size qX AX AY σY_23 AC σC_30 (-1 : Int32) r_34 σY_35 h_36) gL_law_X6_fits kX6_fits rfl rfl rfl rfl ⟨(Nat.le_of_ble_eq_true rfl), (Nat.le_of_ble_eq_true rfl)⟩ [0, 23, 24, 25, 26, 1, 2, 3, 4, 5, 6, 7, 8] [9, 10, 11, 12, 13, 14, 15, 16, 17, 18, 19, 20, 21, 22, 27, 28, 29, 30, 31] rfl rfl rfl (by decide) rfl rfl rfl rfl rfl hl.1 (Nat.le_of_ble_eq_true rfl) dL_law_1955 ⟨(Nat.le_of_ble_eq_true rfl), (Nat.le_of_ble_eq_true rfl)⟩ (fun r_w u_w H locs hw hP hD hS => ?_)
          have hP : va_P g.1 vwCl (wX6 qX AX ++ wX1 g (AX 0) AC σC_30 ++ wX1 g (AX 1) AD σD ++ wX3 g (AX 3) AP σP ++ wX2 (AX 4) σN ++ wX5 g (AX 5) AW (.ref qH) σW ++ wX4 g (AX 6) AY σY_35 ++ wX0 g (AX 7) AK σK ℓK ++ wH g qH σH) H := hP.sub [19, 24, 25, 26, 27, 28, 29, 30, 31, 0, 1, 2, 3, 4, 5, 6, 7, 8, 9, 10, 11, 12, 13, 20, 21, 22, 23, 14, 15, 16, 17, 18] rfl
          have hD : va_D Z (wX6 qX AX ++ wX1 g (AX 0) AC σC_30 ++ wX1 g (AX 1) AD σD ++ wX3 g (AX 3) AP σP ++ wX2 (AX 4) σN ++ wX5 g (AX 5) AW (.ref qH) σW ++ wX4 g (AX 6) AY σY_35 ++ wX0 g (AX 7) AK σK ℓK ++ wH g qH σH) := hD.sub [19, 24, 25, 26, 27, 28, 29, 30, 31, 0, 1, 2, 3, 4, 5, 6, 7, 8, 9, 10, 11, 12, 13, 20, 21, 22, 23, 14, 15, 16, 17, 18] (by decide) rfl
          obtain rfl : r_34 = r_w := hw.symm
          refine lv_iload hx hb dL_law_1958 (lv_at hl 1 rfl) ?_
          refine lv_icmp_le (tgt := 1965) hx hb dL_law_1960 (by decide) (fun c_38 => ?_) (fun c_38 => ?_)
          · have hF := q_if_t c_38 hF
            refine lv_aload_n hx hb dL_law_1965 rfl (lv_at hl 7 rfl) ?_
            refine lv_iconst (v := (-1)) hx hb dL_law_1966 (by decide) ?_
            obtain ⟨⟨r_39, σY_40⟩, h_41, hF⟩ := q_cl_s hF
            try dsimp only at hF
            refine gcV_i (As := [.int (-1)]) (rest := []) (ci := 6) (q := (RX6, TX6, 8)) F hK hN hP hD hS hA (m_X6_fits l g H.size qX AX AY σY_35 AC σC_30 (-1 : Int32) r_39 σY_40 h_41) gL_law_X6_fits kX6_fits rfl rfl rfl rfl ⟨(Nat.le_of_ble_eq_true rfl), (Nat.le_of_ble_eq_true rfl)⟩ [0, 23, 24, 25, 26, 1, 2, 3, 4, 5, 6, 7, 8] [9, 10, 11, 12, 13, 14, 15, 16, 17, 18, 19, 20, 21, 22, 27, 28, 29, 30, 31] rfl rfl rfl (by decide) rfl rfl rfl rfl rfl hl.1 (Nat.le_of_ble_eq_true rfl) dL_law_1967 ⟨(Nat.le_of_ble_eq_true rfl), (Nat.le_of_ble_eq_true rfl)⟩ (fun r_w u_w H locs hw hP hD hS => ?_)
            have hP : va_P g.1 vwCl (wX6 qX AX ++ wX1 g (AX 0) AC σC_30 ++ wX1 g (AX 1) AD σD ++ wX3 g (AX 3) AP σP ++ wX2 (AX 4) σN ++ wX5 g (AX 5) AW (.ref qH) σW ++ wX4 g (AX 6) AY σY_40 ++ wX0 g (AX 7) AK σK ℓK ++ wH g qH σH) H := hP.sub [19, 24, 25, 26, 27, 28, 29, 30, 31, 0, 1, 2, 3, 4, 5, 6, 7, 8, 9, 10, 11, 12, 13, 20, 21, 22, 23, 14, 15, 16, 17, 18] rfl
            have hD : va_D Z (wX6 qX AX ++ wX1 g (AX 0) AC σC_30 ++ wX1 g (AX 1) AD σD ++ wX3 g (AX 3) AP σP ++ wX2 (AX 4) σN ++ wX5 g (AX 5) AW (.ref qH) σW ++ wX4 g (AX 6) AY σY_40 ++ wX0 g (AX 7) AK σK ℓK ++ wH g qH σH) := hD.sub [19, 24, 25, 26, 27, 28, 29, 30, 31, 0, 1, 2, 3, 4, 5, 6, 7, 8, 9, 10, 11, 12, 13, 20, 21, 22, 23, 14, 15, 16, 17, 18] (by decide) rfl
            obtain rfl : r_39 = r_w := hw.symm
            refine lv_istore (lv' := [(21, .int r_39), (20, .int (v20_11 + 1)), (23, .int r_22), (22, .int r_18), (19, .int v19_5), (18, .int r_1), (0, .ref b), (1, .ref qX), (2, .int v2), (4, .int v4), (7, .int v7), (9, .int v9)]) hx hb dL_law_1970 hl (by decide) rfl (fun ls hl => ?_)
            refine lv_iconst (v := 0) hx hb dL_law_1972 (by decide) ?_
            refine lv_istore (lv' := [(24, .int 0), (21, .int r_39), (20, .int (v20_11 + 1)), (23, .int r_22), (22, .int r_18), (19, .int v19_5), (18, .int r_1), (0, .ref b), (1, .ref qX), (2, .int v2), (4, .int v4), (7, .int v7), (9, .int v9)]) hx hb dL_law_1973 hl (by decide) rfl (fun ls hl => ?_)
            refine lv_iconst (v := 0) hx hb dL_law_1975 (by decide) ?_
            refine lv_istore (lv' := [(25, .int 0), (24, .int 0), (21, .int r_39), (20, .int (v20_11 + 1)), (23, .int r_22), (22, .int r_18), (19, .int v19_5), (18, .int r_1), (0, .ref b), (1, .ref qX), (2, .int v2), (4, .int v4), (7, .int v7), (9, .int v9)]) hx hb dL_law_1976 hl (by decide) rfl (fun ls hl => ?_)
            refine q_loop (fun u0 => wX6 qX AX ++ wX1 g (AX 0) AC σC_30 ++ wX1 g (AX 1) AD σD ++ wX3 g (AX 3) AP σP ++ wX2 (AX 4) σN ++ wX5 g (AX 5) AW (.ref qH) σW ++ wX4 g (AX 6) AY u0.2.2 ++ wX0 g (AX 7) AK σK ℓK ++ wH g qH σH) (fun u0 => [(25, .int u0.1), (24, .int u0.2.1), (21, .int r_39), (20, .int (v20_11 + 1)), (19, .int v19_5), (18, .int r_1), (0, .ref b), (1, .ref qX), (2, .int v2), (4, .int v4), (7, .int v7), (9, .int v9)]) 2018 hF ?_ ?_ hP hD hS (lv_sub hl [0, 1, 2, 3, 6, 7, 8, 9, 10, 11, 12, 13] rfl)
            · rintro ⟨v25_43, v24_43, σY_43⟩ hF H locs ls hP hD hS hl
              try dsimp only at hF
              have hP : va_P g.1 vwCl (wX6 qX AX ++ wX1 g (AX 0) AC σC_30 ++ wX1 g (AX 1) AD σD ++ wX3 g (AX 3) AP σP ++ wX2 (AX 4) σN ++ wX5 g (AX 5) AW (.ref qH) σW ++ wX4 g (AX 6) AY σY_43 ++ wX0 g (AX 7) AK σK ℓK ++ wH g qH σH) H := hP
              have hD : va_D Z (wX6 qX AX ++ wX1 g (AX 0) AC σC_30 ++ wX1 g (AX 1) AD σD ++ wX3 g (AX 3) AP σP ++ wX2 (AX 4) σN ++ wX5 g (AX 5) AW (.ref qH) σW ++ wX4 g (AX 6) AY σY_43 ++ wX0 g (AX 7) AK σK ℓK ++ wH g qH σH) := hD
              have hl : lv_has ls 30 [(25, .int v25_43), (24, .int v24_43), (21, .int r_39), (20, .int (v20_11 + 1)), (19, .int v19_5), (18, .int r_1), (0, .ref b), (1, .ref qX), (2, .int v2), (4, .int v4), (7, .int v7), (9, .int v9)] := hl
              refine lv_iload hx hb dL_law_2018 (lv_at hl 1 rfl) ?_
              refine lv_if_ne (tgt := 2025) hx hb dL_law_2020 (by decide) (fun c_44 => ?_) (fun c_44 => ?_)
              · have hF := q_if_f c_44 hF
                refine lv_goto (tgt := 1897) hx hb dL_law_2025 (by decide) ?_
                exact ag (σY_43, r_39, v20_11 + 1, σC_30) hF _ _ _ hP hD hS (lv_sub hl [2, 3, 4, 5, 6, 7, 8, 9, 10, 11] rfl)
              · have hF := q_if_t (by first | exact c_44 | exact Classical.not_not.mp c_44) hF
                refine lv_iconst (v := 0) hx hb dL_law_2023 (by decide) ?_
                exact absurd hF (by decide)
            · rintro k again kk ag ⟨v25_43, v24_43, σY_43⟩ hF H locs ls hP hD hS hl
              dsimp only [b_L_law_1978] at hF
              have hP : va_P g.1 vwCl (wX6 qX AX ++ wX1 g (AX 0) AC σC_30 ++ wX1 g (AX 1) AD σD ++ wX3 g (AX 3) AP σP ++ wX2 (AX 4) σN ++ wX5 g (AX 5) AW (.ref qH) σW ++ wX4 g (AX 6) AY σY_43 ++ wX0 g (AX 7) AK σK ℓK ++ wH g qH σH) H := hP
              have hD : va_D Z (wX6 qX AX ++ wX1 g (AX 0) AC σC_30 ++ wX1 g (AX 1) AD σD ++ wX3 g (AX 3) AP σP ++ wX2 (AX 4) σN ++ wX5 g (AX 5) AW (.ref qH) σW ++ wX4 g (AX 6) AY σY_43 ++ wX0 g (AX 7) AK σK ℓK ++ wH g qH σH) := hD
              have hl : lv_has ls 30 [(25, .int v25_43), (24, .int v24_43), (21, .int r_39), (20, .int (v20_11 + 1)), (19, .int v19_5), (18, .int r_1), (0, .ref b), (1, .ref qX), (2, .int v2), (4, .int v4), (7, .int v7), (9, .int v9)] := hl
              refine lv_iload hx hb dL_law_1978 (lv_at hl 0 rfl) ?_
              refine lv_iload hx hb dL_law_1980 (lv_at hl 2 rfl) ?_
              refine lv_icmp_ge (tgt := 2018) hx hb dL_law_1982 (by decide) (fun c_45 => ?_) (fun c_45 => ?_)
              · have hF := q_if_t c_45 hF
                exact kk (v25_43, v24_43, σY_43) hF _ _ _ hP hD hS (lv_sub hl [0, 1, 2, 3, 4, 5, 6, 7, 8, 9, 10, 11] rfl)
              · have hF := q_if_f c_45 hF
                refine lv_iload hx hb dL_law_1985 (lv_at hl 1 rfl) ?_
                refine lv_aload_n hx hb dL_law_1987 rfl (lv_at hl 7 rfl) ?_
                refine lv_iload hx hb dL_law_1988 (lv_at hl 0 rfl) ?_
                obtain ⟨⟨r_46, σY_47⟩, h_48, hF⟩ := q_cl_s hF
                try dsimp only at hF
                refine gcV_i (As := [.int v25_43]) (rest := [.int v24_43]) (ci := 6) (q := (RX6, TX6, 8)) F hK hN hP hD hS hA (m_X6_fits l g H.size qX AX AY σY_43 AC σC_30 v25_43 r_46 σY_47 h_48) gL_law_X6_fits kX6_fits rfl rfl rfl rfl ⟨(Nat.le_of_ble_eq_true rfl), (Nat.le_of_ble_eq_true rfl)⟩ [0, 23, 24, 25, 26, 1, 2, 3, 4, 5, 6, 7, 8] [9, 10, 11, 12, 13, 14, 15, 16, 17, 18, 19, 20, 21, 22, 27, 28, 29, 30, 31] rfl rfl rfl (by decide) rfl rfl rfl rfl rfl hl.1 (Nat.le_of_ble_eq_true rfl) dL_law_1990 ⟨(Nat.le_of_ble_eq_true rfl), (Nat.le_of_ble_eq_true rfl)⟩ (fun r_w u_w H locs hw hP hD hS => ?_)
                have hP : va_P g.1 vwCl (wX6 qX AX ++ wX1 g (AX 0) AC σC_30 ++ wX1 g (AX 1) AD σD ++ wX3 g (AX 3) AP σP ++ wX2 (AX 4) σN ++ wX5 g (AX 5) AW (.ref qH) σW ++ wX4 g (AX 6) AY σY_47 ++ wX0 g (AX 7) AK σK ℓK ++ wH g qH σH) H := hP.sub [19, 24, 25, 26, 27, 28, 29, 30, 31, 0, 1, 2, 3, 4, 5, 6, 7, 8, 9, 10, 11, 12, 13, 20, 21, 22, 23, 14, 15, 16, 17, 18] rfl
                have hD : va_D Z (wX6 qX AX ++ wX1 g (AX 0) AC σC_30 ++ wX1 g (AX 1) AD σD ++ wX3 g (AX 3) AP σP ++ wX2 (AX 4) σN ++ wX5 g (AX 5) AW (.ref qH) σW ++ wX4 g (AX 6) AY σY_47 ++ wX0 g (AX 7) AK σK ℓK ++ wH g qH σH) := hD.sub [19, 24, 25, 26, 27, 28, 29, 30, 31, 0, 1, 2, 3, 4, 5, 6, 7, 8, 9, 10, 11, 12, 13, 20, 21, 22, 23, 14, 15, 16, 17, 18] (by decide) rfl
                obtain rfl : r_46 = r_w := hw.symm
                refine lv_bipush (v := 10) hx hb dL_law_1993 (by decide) ?_
                refine lv_iload hx hb dL_law_1995 (lv_at hl 5 rfl) ?_
                refine lv_imul hx hb dL_law_1997 ?_
                refine lv_iload hx hb dL_law_1998 (lv_at hl 4 rfl) ?_
                refine lv_iadd hx hb dL_law_2000 ?_
                refine lv_icmp_ne (tgt := 2008) hx hb dL_law_2001 (by decide) (fun c_50 => ?_) (fun c_50 => ?_)
                · have hF := q_if_f c_50 hF
                  refine lv_iconst (v := 0) hx hb dL_law_2008 (by decide) ?_
                  refine lv_ior hx hb dL_law_2009 ?_
                  obtain ⟨v24_51, e_52, hF⟩ := q_bd_s hF
                  refine gtop e_52 ?_
                  refine lv_istore (lv' := [(24, .int v24_51), (25, .int v25_43), (21, .int r_39), (20, .int (v20_11 + 1)), (19, .int v19_5), (18, .int r_1), (0, .ref b), (1, .ref qX), (2, .int v2), (4, .int v4), (7, .int v7), (9, .int v9)]) hx hb dL_law_2010 hl (by decide) rfl (fun ls hl => ?_)
                  refine lv_iinc (v := v25_43 + 1) (lv' := [(25, .int (v25_43 + 1)), (24, .int v24_51), (21, .int r_39), (20, .int (v20_11 + 1)), (19, .int v19_5), (18, .int r_1), (0, .ref b), (1, .ref qX), (2, .int v2), (4, .int v4), (7, .int v7), (9, .int v9)]) hx hb dL_law_2012 hl (k := 1) rfl rfl (by decide) rfl (fun ls hl => ?_)
                  refine lv_goto (tgt := 1978) hx hb dL_law_2015 (by decide) ?_
                  exact ag (v25_43 + 1, v24_51, σY_47) hF _ _ _ hP hD hS (lv_sub hl [0, 1, 2, 3, 4, 5, 6, 7, 8, 9, 10, 11] rfl)
                · have hF := q_if_t (by first | exact c_50 | exact Classical.not_not.mp c_50) hF
                  refine lv_iconst (v := 1) hx hb dL_law_2004 (by decide) ?_
                  refine lv_goto (tgt := 2009) hx hb dL_law_2005 (by decide) ?_
                  refine lv_ior hx hb dL_law_2009 ?_
                  obtain ⟨v24_53, e_54, hF⟩ := q_bd_s hF
                  refine gtop e_54 ?_
                  refine lv_istore (lv' := [(24, .int v24_53), (25, .int v25_43), (21, .int r_39), (20, .int (v20_11 + 1)), (19, .int v19_5), (18, .int r_1), (0, .ref b), (1, .ref qX), (2, .int v2), (4, .int v4), (7, .int v7), (9, .int v9)]) hx hb dL_law_2010 hl (by decide) rfl (fun ls hl => ?_)
                  refine lv_iinc (v := v25_43 + 1) (lv' := [(25, .int (v25_43 + 1)), (24, .int v24_53), (21, .int r_39), (20, .int (v20_11 + 1)), (19, .int v19_5), (18, .int r_1), (0, .ref b), (1, .ref qX), (2, .int v2), (4, .int v4), (7, .int v7), (9, .int v9)]) hx hb dL_law_2012 hl (k := 1) rfl rfl (by decide) rfl (fun ls hl => ?_)
                  refine lv_goto (tgt := 1978) hx hb dL_law_2015 (by decide) ?_
                  exact ag (v25_43 + 1, v24_53, σY_47) hF _ _ _ hP hD hS (lv_sub hl [0, 1, 2, 3, 4, 5, 6, 7, 8, 9, 10, 11] rfl)
          · have hF := q_if_f c_38 hF
            refine lv_iconst (v := 0) hx hb dL_law_1963 (by decide) ?_
            exact absurd hF (by decide)
