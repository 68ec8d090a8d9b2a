set_option maxHeartbeats 8000000 in
set_option maxRecDepth 100000 in
theorem gs_943 {p : Program} {l : Launch} {e : Env} {s : State} {m : MethodId} {below : List Frame} {meth : Method} {c : Code} {b : Nat} {g : GT} {Z : Nat → Prop} {H : Heap} {locs : List Loc} {ls : Array Slot} {qH qX : Nat} {AX AC AD AP AW AY AK : Nat → Nat} {L : Nat} {xs : Nat → Int32} {σC : qS} {σD : qS} {σP : qS} {σN : qS} {σW : qS} {σY : qS} {σK : qS} {ℓK : qL} {σH : qS} {v2 : Int32} {v4 : Int32} {v7 : Int32} {v9 : Int32} {v10 : Int32} {v11 : Int32}
    (hx : p.tables.exec = Jvm.exec) (hb : c.code = cL_law) (hr : meth.sig.returnType = ret) (hlocks : meth.locks = false) (F : CallFix p m c cL_law 30 s #[Value.ref b] wsL_law RL) (hK : va_K g.1 vwCl (tyL g) s) (hN : NW s) (hA : ∀ q : Nat, s.heap.size ≤ q → Z q) (hZ : Z = fun q => s.heap.size ≤ q) (hbA : ¬ Z b) (hX : va_X b L xs s s.heap) (hbl : b < s.heap.size) (hF : g_943 L xs σC σD σP σN σW σY σK ℓK σH v2 v4 v7 v9 v10 v11 = some 1)
    (hP : va_P g.1 vwCl (wX6 qX AX ++ wX1 g (AX 0) AC σC ++ wX1 g (AX 1) AD σD ++ wX3 g (AX 3) AP σP ++ wX2 (AX 4) σN ++ wX5 g (AX 5) AW (.ref qH) σW ++ wX4 g (AX 6) AY σY ++ wX0 g (AX 7) AK σK ℓK ++ wH g qH σH) H) (hD : va_D Z (wX6 qX AX ++ wX1 g (AX 0) AC σC ++ wX1 g (AX 1) AD σD ++ wX3 g (AX 3) AP σP ++ wX2 (AX 4) σN ++ wX5 g (AX 5) AW (.ref qH) σW ++ wX4 g (AX 6) AY σY ++ wX0 g (AX 7) AK σK ℓK ++ wH g qH σH)) (hS : va_S Z s.heap H locs) (hl : lv_has ls 30 [(0, .ref b), (1, .ref qX), (2, .int v2), (4, .int v4), (7, .int v7), (9, .int v9), (10, .int v10), (11, .int v11)]) : W p l e room_1 s m #[Value.ref b] below meth c H locs 200 40000 (lw_Z below #[Value.ref b] s) (F0 m 943 ls []) := by
  have hts := F.2.2.2.2
  have hown : s.vm.findClass RL = some m.cls := F.2.2.2.1
  dsimp only [g_943] at hF
  refine lv_iconst (v := 4) hx hb dL_law_943 (by decide) ?_
  refine lv_istore (lv' := [(5, .int 4), (0, .ref b), (1, .ref qX), (2, .int v2), (4, .int v4), (7, .int v7), (9, .int v9), (10, .int v10), (11, .int v11)]) hx hb dL_law_944 hl (by decide) rfl (fun ls hl => ?_)
  refine lv_bipush (v := 81) hx hb dL_law_946 (by decide) ?_
  refine lv_istore (lv' := [(6, .int 81), (5, .int 4), (0, .ref b), (1, .ref qX), (2, .int v2), (4, .int v4), (7, .int v7), (9, .int v9), (10, .int v10), (11, .int v11)]) hx hb dL_law_948 hl (by decide) rfl (fun ls hl => ?_)
  refine lv_iload hx hb dL_law_950 (lv_at hl 9 rfl) ?_
  refine lv_istore (lv' := [(13, .int v11), (6, .int 81), (5, .int 4), (0, .ref b), (1, .ref qX), (2, .int v2), (4, .int v4), (7, .int v7), (9, .int v9), (10, .int v10), (11, .int v11)]) hx hb dL_law_952 hl (by decide) rfl (fun ls hl => ?_)
  refine lv_aload_n hx hb dL_law_954 rfl (lv_at hl 4 rfl) ?_
  refine lv_bipush (v := 61) hx hb dL_law_955 (by decide) ?_
  obtain ⟨⟨r_1, σP_2⟩, h_3, hF⟩ := q_cl_s hF
  try dsimp only at hF
  refine gcV_i (As := [.int 61]) (rest := []) (ci := 6) (q := (RX6, TX6, 8)) F hK hN hP hD hS hA (m_X6_say l g H.size qX AX AP σP (61 : Int32) r_1 σP_2 h_3) gL_law_X6_say kX6_say rfl rfl rfl rfl ⟨(Nat.le_of_ble_eq_true rfl), (Nat.le_of_ble_eq_true rfl)⟩ [0, 17, 18] [1, 2, 3, 4, 5, 6, 7, 8, 9, 10, 11, 12, 13, 14, 15, 16, 19, 20, 21, 22, 23, 24, 25, 26, 27, 28, 29, 30, 31] rfl rfl rfl (by decide) rfl rfl rfl rfl rfl hl.1 (Nat.le_of_ble_eq_true rfl) dL_law_957 ⟨(Nat.le_of_ble_eq_true rfl), (Nat.le_of_ble_eq_true rfl)⟩ (fun r_w u_w H locs hw hP hD hS => ?_)
  have hP : va_P g.1 vwCl (wX6 qX AX ++ wX1 g (AX 0) AC σC ++ wX1 g (AX 1) AD σD ++ wX3 g (AX 3) AP σP_2 ++ wX2 (AX 4) σN ++ wX5 g (AX 5) AW (.ref qH) σW ++ wX4 g (AX 6) AY σY ++ wX0 g (AX 7) AK σK ℓK ++ wH g qH σH) H := hP.sub [29, 0, 1, 2, 3, 4, 5, 6, 7, 8, 9, 10, 11, 12, 13, 14, 15, 30, 31, 16, 17, 18, 19, 20, 21, 22, 23, 24, 25, 26, 27, 28] rfl
  have hD : va_D Z (wX6 qX AX ++ wX1 g (AX 0) AC σC ++ wX1 g (AX 1) AD σD ++ wX3 g (AX 3) AP σP_2 ++ wX2 (AX 4) σN ++ wX5 g (AX 5) AW (.ref qH) σW ++ wX4 g (AX 6) AY σY ++ wX0 g (AX 7) AK σK ℓK ++ wH g qH σH) := hD.sub [29, 0, 1, 2, 3, 4, 5, 6, 7, 8, 9, 10, 11, 12, 13, 14, 15, 30, 31, 16, 17, 18, 19, 20, 21, 22, 23, 24, 25, 26, 27, 28] (by decide) rfl
  obtain rfl : r_1 = r_w := hw.symm
  refine lv_iconst (v := 1) hx hb dL_law_960 (by decide) ?_
  refine lv_icmp_ne (tgt := 1001) hx hb dL_law_961 (by decide) (fun c_5 => ?_) (fun c_5 => ?_)
  · have hF := q_if_f c_5 hF
    refine lv_iconst (v := 0) hx hb dL_law_1001 (by decide) ?_
    refine lv_istore (lv' := [(14, .int 0), (13, .int v11), (6, .int 81), (5, .int 4), (0, .ref b), (1, .ref qX), (2, .int v2), (4, .int v4), (7, .int v7), (9, .int v9), (10, .int v10), (11, .int v11)]) hx hb dL_law_1002 hl (by decide) rfl (fun ls hl => ?_)
    exact gs_1004 hx hb hr hlocks F hK hN hA hZ hbA hX hbl hF hP hD hS (lv_sub hl [4, 5, 6, 7, 3, 2, 8, 9, 10, 11, 1, 0] rfl)
  · have hF := q_if_t (by first | exact c_5 | exact Classical.not_not.mp c_5) hF
    refine lv_aload_n hx hb dL_law_964 rfl (lv_at hl 4 rfl) ?_
    refine lv_bipush (v := 51) hx hb dL_law_965 (by decide) ?_
    obtain ⟨⟨r_6, σP_7⟩, h_8, hF⟩ := q_cl_s hF
    try dsimp only at hF
    refine gcV_i (As := [.int 51]) (rest := []) (ci := 6) (q := (RX6, TX6, 8)) F hK hN hP hD hS hA (m_X6_say l g H.size qX AX AP σP_2 (51 : Int32) r_6 σP_7 h_8) gL_law_X6_say kX6_say rfl rfl rfl rfl ⟨(Nat.le_of_ble_eq_true rfl), (Nat.le_of_ble_eq_true rfl)⟩ [0, 17, 18] [1, 2, 3, 4, 5, 6, 7, 8, 9, 10, 11, 12, 13, 14, 15, 16, 19, 20, 21, 22, 23, 24, 25, 26, 27, 28, 29, 30, 31] rfl rfl rfl (by decide) rfl rfl rfl rfl rfl hl.1 (Nat.le_of_ble_eq_true rfl) dL_law_967 ⟨(Nat.le_of_ble_eq_true rfl), (Nat.le_of_ble_eq_true rfl)⟩ (fun r_w u_w H locs hw hP hD hS => ?_)
    have hP : va_P g.1 vwCl (wX6 qX AX ++ wX1 g (AX 0) AC σC ++ wX1 g (AX 1) AD σD ++ wX3 g (AX 3) AP σP_7 ++ wX2 (AX 4) σN ++ wX5 g (AX 5) AW (.ref qH) σW ++ wX4 g (AX 6) AY σY ++ wX0 g (AX 7) AK σK ℓK ++ wH g qH σH) H := hP.sub [29, 0, 1, 2, 3, 4, 5, 6, 7, 8, 9, 10, 11, 12, 13, 14, 15, 30, 31, 16, 17, 18, 19, 20, 21, 22, 23, 24, 25, 26, 27, 28] rfl
    have hD : va_D Z (wX6 qX AX ++ wX1 g (AX 0) AC σC ++ wX1 g (AX 1) AD σD ++ wX3 g (AX 3) AP σP_7 ++ wX2 (AX 4) σN ++ wX5 g (AX 5) AW (.ref qH) σW ++ wX4 g (AX 6) AY σY ++ wX0 g (AX 7) AK σK ℓK ++ wH g qH σH) := hD.sub [29, 0, 1, 2, 3, 4, 5, 6, 7, 8, 9, 10, 11, 12, 13, 14, 15, 30, 31, 16, 17, 18, 19, 20, 21, 22, 23, 24, 25, 26, 27, 28] (by decide) rfl
    obtain rfl : r_6 = r_w := hw.symm
    refine lv_iconst (v := 2) hx hb dL_law_970 (by decide) ?_
    refine lv_icmp_ne (tgt := 1001) hx hb dL_law_971 (by decide) (fun c_10 => ?_) (fun c_10 => ?_)
    · have hF := q_if_f c_10 hF
      refine lv_iconst (v := 0) hx hb dL_law_1001 (by decide) ?_
      refine lv_istore (lv' := [(14, .int 0), (13, .int v11), (6, .int 81), (5, .int 4), (0, .ref b), (1, .ref qX), (2, .int v2), (4, .int v4), (7, .int v7), (9, .int v9), (10, .int v10), (11, .int v11)]) hx hb dL_law_1002 hl (by decide) rfl (fun ls hl => ?_)
      exact gs_1004 hx hb hr hlocks F hK hN hA hZ hbA hX hbl hF hP hD hS (lv_sub hl [4, 5, 6, 7, 3, 2, 8, 9, 10, 11, 1, 0] rfl)
    · have hF := q_if_t (by first | exact c_10 | exact Classical.not_not.mp c_10) hF
      refine lv_aload_n hx hb dL_law_974 rfl (lv_at hl 4 rfl) ?_
      refine lv_bipush (v := 57) hx hb dL_law_975 (by decide) ?_
      obtain ⟨⟨r_11, σP_12⟩, h_13, hF⟩ := q_cl_s hF
      try dsimp only at hF
      refine gcV_i (As := [.int 57]) (rest := []) (ci := 6) (q := (RX6, TX6, 8)) F hK hN hP hD hS hA (m_X6_say l g H.size qX AX AP σP_7 (57 : Int32) r_11 σP_12 h_13) gL_law_X6_say kX6_say rfl rfl rfl rfl ⟨(Nat.le_of_ble_eq_true rfl), (Nat.le_of_ble_eq_true rfl)⟩ [0, 17, 18] [1, 2, 3, 4, 5, 6, 7, 8, 9, 10, 11, 12, 13, 14, 15, 16, 19, 20, 21, 22, 23, 24, 25, 26, 27, 28, 29, 30, 31] rfl rfl rfl (by decide) rfl rfl rfl rfl rfl hl.1 (Nat.le_of_ble_eq_true rfl) dL_law_977 ⟨(Nat.le_of_ble_eq_true rfl), (Nat.le_of_ble_eq_true rfl)⟩ (fun r_w u_w H locs hw hP hD hS => ?_)
      have hP : va_P g.1 vwCl (wX6 qX AX ++ wX1 g (AX 0) AC σC ++ wX1 g (AX 1) AD σD ++ wX3 g (AX 3) AP σP_12 ++ wX2 (AX 4) σN ++ wX5 g (AX 5) AW (.ref qH) σW ++ wX4 g (AX 6) AY σY ++ wX0 g (AX 7) AK σK ℓK ++ wH g qH σH) H := hP.sub [29, 0, 1, 2, 3, 4, 5, 6, 7, 8, 9, 10, 11, 12, 13, 14, 15, 30, 31, 16, 17, 18, 19, 20, 21, 22, 23, 24, 25, 26, 27, 28] rfl
      have hD : va_D Z (wX6 qX AX ++ wX1 g (AX 0) AC σC ++ wX1 g (AX 1) AD σD ++ wX3 g (AX 3) AP σP_12 ++ wX2 (AX 4) σN ++ wX5 g (AX 5) AW (.ref qH) σW ++ wX4 g (AX 6) AY σY ++ wX0 g (AX 7) AK σK ℓK ++ wH g qH σH) := hD.sub [29, 0, 1, 2, 3, 4, 5, 6, 7, 8, 9, 10, 11, 12, 13, 14, 15, 30, 31, 16, 17, 18, 19, 20, 21, 22, 23, 24, 25, 26, 27, 28] (by decide) rfl
      obtain rfl : r_11 = r_w := hw.symm
      refine lv_iconst (v := 3) hx hb dL_law_980 (by decide) ?_
      refine lv_icmp_ne (tgt := 1001) hx hb dL_law_981 (by decide) (fun c_15 => ?_) (fun c_15 => ?_)
      · have hF := q_if_f c_15 hF
        refine lv_iconst (v := 0) hx hb dL_law_1001 (by decide) ?_
        refine lv_istore (lv' := [(14, .int 0), (13, .int v11), (6, .int 81), (5, .int 4), (0, .ref b), (1, .ref qX), (2, .int v2), (4, .int v4), (7, .int v7), (9, .int v9), (10, .int v10), (11, .int v11)]) hx hb dL_law_1002 hl (by decide) rfl (fun ls hl => ?_)
        exact gs_1004 hx hb hr hlocks F hK hN hA hZ hbA hX hbl hF hP hD hS (lv_sub hl [4, 5, 6, 7, 3, 2, 8, 9, 10, 11, 1, 0] rfl)
      · have hF := q_if_t (by first | exact c_15 | exact Classical.not_not.mp c_15) hF
        refine lv_aload_n hx hb dL_law_984 rfl (lv_at hl 4 rfl) ?_
        refine lv_bipush (v := 65) hx hb dL_law_985 (by decide) ?_
        refine lv_iload hx hb dL_law_987 (lv_at hl 9 rfl) ?_
        refine lv_iadd hx hb dL_law_989 ?_
        obtain ⟨⟨r_16, σP_17⟩, h_18, hF⟩ := q_cl_s hF
        try dsimp only at hF
        refine gcV_i (As := [.int ((65 : Int32) + v10)]) (rest := []) (ci := 6) (q := (RX6, TX6, 8)) F hK hN hP hD hS hA (m_X6_say l g H.size qX AX AP σP_12 ((65 : Int32) + v10) r_16 σP_17 h_18) gL_law_X6_say kX6_say rfl rfl rfl rfl ⟨(Nat.le_of_ble_eq_true rfl), (Nat.le_of_ble_eq_true rfl)⟩ [0, 17, 18] [1, 2, 3, 4, 5, 6, 7, 8, 9, 10, 11, 12, 13, 14, 15, 16, 19, 20, 21, 22, 23, 24, 25, 26, 27, 28, 29, 30, 31] rfl rfl rfl (by decide) rfl rfl rfl rfl rfl hl.1 (Nat.le_of_ble_eq_true rfl) dL_law_990 ⟨(Nat.le_of_ble_eq_true rfl), (Nat.le_of_ble_eq_true rfl)⟩ (fun r_w u_w H locs hw hP hD hS => ?_)
        have hP : va_P g.1 vwCl (wX6 qX AX ++ wX1 g (AX 0) AC σC ++ wX1 g (AX 1) AD σD ++ wX3 g (AX 3) AP σP_17 ++ wX2 (AX 4) σN ++ wX5 g (AX 5) AW (.ref qH) σW ++ wX4 g (AX 6) AY σY ++ wX0 g (AX 7) AK σK ℓK ++ wH g qH σH) H := hP.sub [29, 0, 1, 2, 3, 4, 5, 6, 7, 8, 9, 10, 11, 12, 13, 14, 15, 30, 31, 16, 17, 18, 19, 20, 21, 22, 23, 24, 25, 26, 27, 28] rfl
        have hD : va_D Z (wX6 qX AX ++ wX1 g (AX 0) AC σC ++ wX1 g (AX 1) AD σD ++ wX3 g (AX 3) AP σP_17 ++ wX2 (AX 4) σN ++ wX5 g (AX 5) AW (.ref qH) σW ++ wX4 g (AX 6) AY σY ++ wX0 g (AX 7) AK σK ℓK ++ wH g qH σH) := hD.sub [29, 0, 1, 2, 3, 4, 5, 6, 7, 8, 9, 10, 11, 12, 13, 14, 15, 30, 31, 16, 17, 18, 19, 20, 21, 22, 23, 24, 25, 26, 27, 28] (by decide) rfl
        obtain rfl : r_16 = r_w := hw.symm
        refine lv_iconst (v := 4) hx hb dL_law_993 (by decide) ?_
        refine lv_icmp_ne (tgt := 1001) hx hb dL_law_994 (by decide) (fun c_20 => ?_) (fun c_20 => ?_)
        · have hF := q_if_f c_20 hF
          refine lv_iconst (v := 0) hx hb dL_law_1001 (by decide) ?_
          refine lv_istore (lv' := [(14, .int 0), (13, .int v11), (6, .int 81), (5, .int 4), (0, .ref b), (1, .ref qX), (2, .int v2), (4, .int v4), (7, .int v7), (9, .int v9), (10, .int v10), (11, .int v11)]) hx hb dL_law_1002 hl (by decide) rfl (fun ls hl => ?_)
          exact gs_1004 hx hb hr hlocks F hK hN hA hZ hbA hX hbl hF hP hD hS (lv_sub hl [4, 5, 6, 7, 3, 2, 8, 9, 10, 11, 1, 0] rfl)
        · have hF := q_if_t (by first | exact c_20 | exact Classical.not_not.mp c_20) hF
          refine lv_iconst (v := 1) hx hb dL_law_997 (by decide) ?_
          refine lv_goto (tgt := 1002) hx hb dL_law_998 (by decide) ?_
          refine lv_istore (lv' := [(14, .int 1), (13, .int v11), (6, .int 81), (5, .int 4), (0, .ref b), (1, .ref qX), (2, .int v2), (4, .int v4), (7, .int v7), (9, .int v9), (10, .int v10), (11, .int v11)]) hx hb dL_law_1002 hl (by decide) rfl (fun ls hl => ?_)
          exact gs_1004 hx hb hr hlocks F hK hN hA hZ hbA hX hbl hF hP hD hS (lv_sub hl [4, 5, 6, 7, 3, 2, 8, 9, 10, 11, 1, 0] rfl)
