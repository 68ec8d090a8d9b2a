set_option maxHeartbeats 8000000 in
set_option maxRecDepth 100000 in
theorem gs_687 {p : Program} {l : Launch} {e : Env} {s : State} {m : MethodId} {below : List Frame} {meth : Method} {c : Code} {b : Nat} {g : GT} {Z : Nat → Prop} {H : Heap} {locs : List Loc} {ls : Array Slot} {qH qX : Nat} {AX AC AD AP AW AY AK : Nat → Nat} {L : Nat} {xs : Nat → Int32} {σC : qS} {σD : qS} {σP : qS} {σN : qS} {σW : qS} {σY : qS} {σK : qS} {ℓK : qL} {σH : qS} {v2 : Int32} {v4 : Int32} {v7 : Int32} {v9 : Int32} {v10 : Int32} {v11 : Int32} {v12 : Int32}
    (hx : p.tables.exec = Jvm.exec) (hb : c.code = cL_law) (hr : meth.sig.returnType = ret) (hlocks : meth.locks = false) (F : CallFix p m c cL_law 30 s #[Value.ref b] wsL_law RL) (hK : va_K g.1 vwCl (tyL g) s) (hN : NW s) (hA : ∀ q : Nat, s.heap.size ≤ q → Z q) (hZ : Z = fun q => s.heap.size ≤ q) (hbA : ¬ Z b) (hX : va_X b L xs s s.heap) (hbl : b < s.heap.size) (hF : g_687 L xs σC σD σP σN σW σY σK ℓK σH v2 v4 v7 v9 v10 v11 v12 = some 1)
    (hP : va_P g.1 vwCl (wX6 qX AX ++ wX1 g (AX 0) AC σC ++ wX1 g (AX 1) AD σD ++ wX3 g (AX 3) AP σP ++ wX2 (AX 4) σN ++ wX5 g (AX 5) AW (.ref qH) σW ++ wX4 g (AX 6) AY σY ++ wX0 g (AX 7) AK σK ℓK ++ wH g qH σH) H) (hD : va_D Z (wX6 qX AX ++ wX1 g (AX 0) AC σC ++ wX1 g (AX 1) AD σD ++ wX3 g (AX 3) AP σP ++ wX2 (AX 4) σN ++ wX5 g (AX 5) AW (.ref qH) σW ++ wX4 g (AX 6) AY σY ++ wX0 g (AX 7) AK σK ℓK ++ wH g qH σH)) (hS : va_S Z s.heap H locs) (hl : lv_has ls 30 [(0, .ref b), (1, .ref qX), (2, .int v2), (4, .int v4), (7, .int v7), (9, .int v9), (10, .int v10), (11, .int v11), (12, .int v12)]) : W p l e room_1 s m #[Value.ref b] below meth c H locs 200 40000 (lw_Z below #[Value.ref b] s) (F0 m 687 ls []) := by
  have hts := F.2.2.2.2
  have hown : s.vm.findClass RL = some m.cls := F.2.2.2.1
  dsimp only [g_687] at hF
  refine lv_iconst (v := 1) hx hb dL_law_687 (by decide) ?_
  refine lv_istore (lv' := [(13, .int 1), (0, .ref b), (1, .ref qX), (2, .int v2), (4, .int v4), (7, .int v7), (9, .int v9), (10, .int v10), (11, .int v11), (12, .int v12)]) hx hb dL_law_688 hl (by decide) rfl (fun ls hl => ?_)
  refine q_loop (fun u0 => wX6 qX AX ++ wX1 g (AX 0) AC σC ++ wX1 g (AX 1) AD u0.2.1 ++ wX3 g (AX 3) AP u0.2.2.1 ++ wX2 (AX 4) u0.2.2.2.1 ++ wX5 g (AX 5) AW (.ref qH) u0.2.2.2.2.1 ++ wX4 g (AX 6) AY σY ++ wX0 g (AX 7) AK σK ℓK ++ wH g qH u0.2.2.2.2.2) (fun u0 => [(13, .int u0.1), (0, .ref b), (1, .ref qX), (2, .int v2), (4, .int v4), (7, .int v7), (9, .int v9), (10, .int v10), (11, .int v11), (12, .int v12)]) 943 hF ?_ ?_ hP hD hS (lv_sub hl [0, 1, 2, 3, 4, 5, 6, 7, 8, 9] rfl)
  · rintro ⟨v13_1, σD_1, σP_1, σN_1, σW_1, σH_1⟩ hF H locs ls hP hD hS hl
    try dsimp only at hF
    have hP : va_P g.1 vwCl (wX6 qX AX ++ wX1 g (AX 0) AC σC ++ wX1 g (AX 1) AD σD_1 ++ wX3 g (AX 3) AP σP_1 ++ wX2 (AX 4) σN_1 ++ wX5 g (AX 5) AW (.ref qH) σW_1 ++ wX4 g (AX 6) AY σY ++ wX0 g (AX 7) AK σK ℓK ++ wH g qH σH_1) H := hP
    have hD : va_D Z (wX6 qX AX ++ wX1 g (AX 0) AC σC ++ wX1 g (AX 1) AD σD_1 ++ wX3 g (AX 3) AP σP_1 ++ wX2 (AX 4) σN_1 ++ wX5 g (AX 5) AW (.ref qH) σW_1 ++ wX4 g (AX 6) AY σY ++ wX0 g (AX 7) AK σK ℓK ++ wH g qH σH_1) := hD
    have hl : lv_has ls 30 [(13, .int v13_1), (0, .ref b), (1, .ref qX), (2, .int v2), (4, .int v4), (7, .int v7), (9, .int v9), (10, .int v10), (11, .int v11), (12, .int v12)] := hl
    exact gs_943 hx hb hr hlocks F hK hN hA hZ hbA hX hbl hF hP hD hS (lv_sub hl [1, 2, 3, 4, 5, 6, 7, 8] rfl)
  · rintro k again kk ag ⟨v13_1, σD_1, σP_1, σN_1, σW_1, σH_1⟩ hF H locs ls hP hD hS hl
    dsimp only [b_L_law_690] at hF
    have hP : va_P g.1 vwCl (wX6 qX AX ++ wX1 g (AX 0) AC σC ++ wX1 g (AX 1) AD σD_1 ++ wX3 g (AX 3) AP σP_1 ++ wX2 (AX 4) σN_1 ++ wX5 g (AX 5) AW (.ref qH) σW_1 ++ wX4 g (AX 6) AY σY ++ wX0 g (AX 7) AK σK ℓK ++ wH g qH σH_1) H := hP
    have hD : va_D Z (wX6 qX AX ++ wX1 g (AX 0) AC σC ++ wX1 g (AX 1) AD σD_1 ++ wX3 g (AX 3) AP σP_1 ++ wX2 (AX 4) σN_1 ++ wX5 g (AX 5) AW (.ref qH) σW_1 ++ wX4 g (AX 6) AY σY ++ wX0 g (AX 7) AK σK ℓK ++ wH g qH σH_1) := hD
    have hl : lv_has ls 30 [(13, .int v13_1), (0, .ref b), (1, .ref qX), (2, .int v2), (4, .int v4), (7, .int v7), (9, .int v9), (10, .int v10), (11, .int v11), (12, .int v12)] := hl
    refine lv_iload hx hb dL_law_690 (lv_at hl 0 rfl) ?_
    refine lv_bipush (v := 10) hx hb dL_law_692 (by decide) ?_
    refine lv_icmp_ge (tgt := 943) hx hb dL_law_694 (by decide) (fun c_2 => ?_) (fun c_2 => ?_)
    · have hF := q_if_t c_2 hF
      exact kk (v13_1, σD_1, σP_1, σN_1, σW_1, σH_1) hF _ _ _ hP hD hS (lv_sub hl [0, 1, 2, 3, 4, 5, 6, 7, 8, 9] rfl)
    · have hF := q_if_f c_2 hF
      refine lv_bipush (v := 10) hx hb dL_law_697 (by decide) ?_
      refine lv_iload hx hb dL_law_699 (lv_at hl 0 rfl) ?_
      refine lv_imul hx hb dL_law_701 ?_
      refine lv_bipush (v := 9) hx hb dL_law_702 (by decide) ?_
      refine lv_isub hx hb dL_law_704 ?_
      obtain ⟨v14_3, e_4, hF⟩ := q_bd_s hF
      refine gtop e_4 ?_
      refine lv_istore (lv' := [(14, .int v14_3), (13, .int v13_1), (0, .ref b), (1, .ref qX), (2, .int v2), (4, .int v4), (7, .int v7), (9, .int v9), (10, .int v10), (11, .int v11), (12, .int v12)]) hx hb dL_law_705 hl (by decide) rfl (fun ls hl => ?_)
      refine lv_iload hx hb dL_law_707 (lv_at hl 0 rfl) ?_
      refine lv_bipush (v := 9) hx hb dL_law_709 (by decide) ?_
      refine lv_iload hx hb dL_law_711 (lv_at hl 9 rfl) ?_
      refine lv_imul hx hb dL_law_713 ?_
      refine lv_icmp_le (tgt := 721) hx hb dL_law_714 (by decide) (fun c_5 => ?_) (fun c_5 => ?_)
      · have hF := q_if_t c_5 hF
        refine lv_iconst (v := 0) hx hb dL_law_721 (by decide) ?_
        refine lv_istore (lv' := [(15, .int 0), (14, .int v14_3), (13, .int v13_1), (0, .ref b), (1, .ref qX), (2, .int v2), (4, .int v4), (7, .int v7), (9, .int v9), (10, .int v10), (11, .int v11), (12, .int v12)]) hx hb dL_law_722 hl (by decide) rfl (fun ls hl => ?_)
        refine lv_aload_n hx hb dL_law_724 rfl (lv_at hl 4 rfl) ?_
        refine lv_bipush (v := 61) hx hb dL_law_725 (by decide) ?_
        obtain ⟨⟨r_6, σP_7⟩, h_8, hF⟩ := q_cl_s hF
        try dsimp only at hF
        refine gcV_i (As := [.int 61]) (rest := []) (ci := 6) (q := (RX6, TX6, 8)) F hK hN hP hD hS hA (m_X6_say l g H.size qX AX AP σP_1 (61 : Int32) r_6 σP_7 h_8) gL_law_X6_say kX6_say rfl rfl rfl rfl ⟨(Nat.le_of_ble_eq_true rfl), (Nat.le_of_ble_eq_true rfl)⟩ [0, 17, 18] [1, 2, 3, 4, 5, 6, 7, 8, 9, 10, 11, 12, 13, 14, 15, 16, 19, 20, 21, 22, 23, 24, 25, 26, 27, 28, 29, 30, 31] rfl rfl rfl (by decide) rfl rfl rfl rfl rfl hl.1 (Nat.le_of_ble_eq_true rfl) dL_law_727 ⟨(Nat.le_of_ble_eq_true rfl), (Nat.le_of_ble_eq_true rfl)⟩ (fun r_w u_w H locs hw hP hD hS => ?_)
        have hP : va_P g.1 vwCl (wX6 qX AX ++ wX1 g (AX 0) AC σC ++ wX1 g (AX 1) AD σD_1 ++ wX3 g (AX 3) AP σP_7 ++ wX2 (AX 4) σN_1 ++ wX5 g (AX 5) AW (.ref qH) σW_1 ++ wX4 g (AX 6) AY σY ++ wX0 g (AX 7) AK σK ℓK ++ wH g qH σH_1) H := hP.sub [29, 0, 1, 2, 3, 4, 5, 6, 7, 8, 9, 10, 11, 12, 13, 14, 15, 30, 31, 16, 17, 18, 19, 20, 21, 22, 23, 24, 25, 26, 27, 28] rfl
        have hD : va_D Z (wX6 qX AX ++ wX1 g (AX 0) AC σC ++ wX1 g (AX 1) AD σD_1 ++ wX3 g (AX 3) AP σP_7 ++ wX2 (AX 4) σN_1 ++ wX5 g (AX 5) AW (.ref qH) σW_1 ++ wX4 g (AX 6) AY σY ++ wX0 g (AX 7) AK σK ℓK ++ wH g qH σH_1) := hD.sub [29, 0, 1, 2, 3, 4, 5, 6, 7, 8, 9, 10, 11, 12, 13, 14, 15, 30, 31, 16, 17, 18, 19, 20, 21, 22, 23, 24, 25, 26, 27, 28] (by decide) rfl
        obtain rfl : r_6 = r_w := hw.symm
        refine lv_iconst (v := 1) hx hb dL_law_730 (by decide) ?_
        refine lv_icmp_ne (tgt := 935) hx hb dL_law_731 (by decide) (fun c_10 => ?_) (fun c_10 => ?_)
        · have hF := q_if_f c_10 hF
          refine lv_iconst (v := 0) hx hb dL_law_935 (by decide) ?_
          exact absurd hF (by decide)
        · have hF := q_if_t (by first | exact c_10 | exact Classical.not_not.mp c_10) hF
          refine lv_aload_n hx hb dL_law_734 rfl (lv_at hl 4 rfl) ?_
          refine lv_bipush (v := 48) hx hb dL_law_735 (by decide) ?_
          refine lv_iload hx hb dL_law_737 (lv_at hl 11 rfl) ?_
          refine lv_iadd hx hb dL_law_739 ?_
          obtain ⟨⟨r_11, σP_12⟩, h_13, hF⟩ := q_cl_s hF
          try dsimp only at hF
          refine gcV_i (As := [.int ((48 : Int32) + v12)]) (rest := []) (ci := 6) (q := (RX6, TX6, 8)) F hK hN hP hD hS hA (m_X6_say l g H.size qX AX AP σP_7 ((48 : Int32) + v12) r_11 σP_12 h_13) gL_law_X6_say kX6_say rfl rfl rfl rfl ⟨(Nat.le_of_ble_eq_true rfl), (Nat.le_of_ble_eq_true rfl)⟩ [0, 17, 18] [1, 2, 3, 4, 5, 6, 7, 8, 9, 10, 11, 12, 13, 14, 15, 16, 19, 20, 21, 22, 23, 24, 25, 26, 27, 28, 29, 30, 31] rfl rfl rfl (by decide) rfl rfl rfl rfl rfl hl.1 (Nat.le_of_ble_eq_true rfl) dL_law_740 ⟨(Nat.le_of_ble_eq_true rfl), (Nat.le_of_ble_eq_true rfl)⟩ (fun r_w u_w H locs hw hP hD hS => ?_)
          have hP : va_P g.1 vwCl (wX6 qX AX ++ wX1 g (AX 0) AC σC ++ wX1 g (AX 1) AD σD_1 ++ wX3 g (AX 3) AP σP_12 ++ wX2 (AX 4) σN_1 ++ wX5 g (AX 5) AW (.ref qH) σW_1 ++ wX4 g (AX 6) AY σY ++ wX0 g (AX 7) AK σK ℓK ++ wH g qH σH_1) H := hP.sub [29, 0, 1, 2, 3, 4, 5, 6, 7, 8, 9, 10, 11, 12, 13, 14, 15, 30, 31, 16, 17, 18, 19, 20, 21, 22, 23, 24, 25, 26, 27, 28] rfl
          have hD : va_D Z (wX6 qX AX ++ wX1 g (AX 0) AC σC ++ wX1 g (AX 1) AD σD_1 ++ wX3 g (AX 3) AP σP_12 ++ wX2 (AX 4) σN_1 ++ wX5 g (AX 5) AW (.ref qH) σW_1 ++ wX4 g (AX 6) AY σY ++ wX0 g (AX 7) AK σK ℓK ++ wH g qH σH_1) := hD.sub [29, 0, 1, 2, 3, 4, 5, 6, 7, 8, 9, 10, 11, 12, 13, 14, 15, 30, 31, 16, 17, 18, 19, 20, 21, 22, 23, 24, 25, 26, 27, 28] (by decide) rfl
          obtain rfl : r_11 = r_w := hw.symm
          refine lv_iconst (v := 2) hx hb dL_law_743 (by decide) ?_
          refine lv_icmp_ne (tgt := 935) hx hb dL_law_744 (by decide) (fun c_15 => ?_) (fun c_15 => ?_)
          · have hF := q_if_f c_15 hF
            refine lv_iconst (v := 0) hx hb dL_law_935 (by decide) ?_
            exact absurd hF (by decide)
          · have hF := q_if_t (by first | exact c_15 | exact Classical.not_not.mp c_15) hF
            refine lv_aload_n hx hb dL_law_747 rfl (lv_at hl 4 rfl) ?_
            refine lv_bipush (v := 48) hx hb dL_law_748 (by decide) ?_
            refine lv_iload hx hb dL_law_750 (lv_at hl 2 rfl) ?_
            refine lv_iadd hx hb dL_law_752 ?_
            obtain ⟨⟨r_16, σP_17⟩, h_18, hF⟩ := q_cl_s hF
            try dsimp only at hF
            refine gcV_i (As := [.int ((48 : Int32) + v13_1)]) (rest := []) (ci := 6) (q := (RX6, TX6, 8)) F hK hN hP hD hS hA (m_X6_say l g H.size qX AX AP σP_12 ((48 : Int32) + v13_1) r_16 σP_17 h_18) gL_law_X6_say kX6_say rfl rfl rfl rfl ⟨(Nat.le_of_ble_eq_true rfl), (Nat.le_of_ble_eq_true rfl)⟩ [0, 17, 18] [1, 2, 3, 4, 5, 6, 7, 8, 9, 10, 11, 12, 13, 14, 15, 16, 19, 20, 21, 22, 23, 24, 25, 26, 27, 28, 29, 30, 31] rfl rfl rfl (by decide) rfl rfl rfl rfl rfl hl.1 (Nat.le_of_ble_eq_true rfl) dL_law_753 ⟨(Nat.le_of_ble_eq_true rfl), (Nat.le_of_ble_eq_true rfl)⟩ (fun r_w u_w H locs hw hP hD hS => ?_)
            have hP : va_P g.1 vwCl (wX6 qX AX ++ wX1 g (AX 0) AC σC ++ wX1 g (AX 1) AD σD_1 ++ wX3 g (AX 3) AP σP_17 ++ wX2 (AX 4) σN_1 ++ wX5 g (AX 5) AW (.ref qH) σW_1 ++ wX4 g (AX 6) AY σY ++ wX0 g (AX 7) AK σK ℓK ++ wH g qH σH_1) H := hP.sub [29, 0, 1, 2, 3, 4, 5, 6, 7, 8, 9, 10, 11, 12, 13, 14, 15, 30, 31, 16, 17, 18, 19, 20, 21, 22, 23, 24, 25, 26, 27, 28] rfl
            have hD : va_D Z (wX6 qX AX ++ wX1 g (AX 0) AC σC ++ wX1 g (AX 1) AD σD_1 ++ wX3 g (AX 3) AP σP_17 ++ wX2 (AX 4) σN_1 ++ wX5 g (AX 5) AW (.ref qH) σW_1 ++ wX4 g (AX 6) AY σY ++ wX0 g (AX 7) AK σK ℓK ++ wH g qH σH_1) := hD.sub [29, 0, 1, 2, 3, 4, 5, 6, 7, 8, 9, 10, 11, 12, 13, 14, 15, 30, 31, 16, 17, 18, 19, 20, 21, 22, 23, 24, 25, 26, 27, 28] (by decide) rfl
            obtain rfl : r_16 = r_w := hw.symm
            refine lv_iconst (v := 3) hx hb dL_law_756 (by decide) ?_
            refine lv_icmp_ne (tgt := 935) hx hb dL_law_757 (by decide) (fun c_20 => ?_) (fun c_20 => ?_)
            · have hF := q_if_f c_20 hF
              refine lv_iconst (v := 0) hx hb dL_law_935 (by decide) ?_
              exact absurd hF (by decide)
            · have hF := q_if_t (by first | exact c_20 | exact Classical.not_not.mp c_20) hF
              refine lv_aload_n hx hb dL_law_760 rfl (lv_at hl 4 rfl) ?_
              refine lv_bipush (v := 65) hx hb dL_law_761 (by decide) ?_
              refine lv_iload hx hb dL_law_763 (lv_at hl 9 rfl) ?_
              refine lv_iadd hx hb dL_law_765 ?_
              obtain ⟨⟨r_21, σP_22⟩, h_23, hF⟩ := q_cl_s hF
              try dsimp only at hF
              refine gcV_i (As := [.int ((65 : Int32) + v10)]) (rest := []) (ci := 6) (q := (RX6, TX6, 8)) F hK hN hP hD hS hA (m_X6_say l g H.size qX AX AP σP_17 ((65 : Int32) + v10) r_21 σP_22 h_23) gL_law_X6_say kX6_say rfl rfl rfl rfl ⟨(Nat.le_of_ble_eq_true rfl), (Nat.le_of_ble_eq_true rfl)⟩ [0, 17, 18] [1, 2, 3, 4, 5, 6, 7, 8, 9, 10, 11, 12, 13, 14, 15, 16, 19, 20, 21, 22, 23, 24, 25, 26, 27, 28, 29, 30, 31] rfl rfl rfl (by decide) rfl rfl rfl rfl rfl hl.1 (Nat.le_of_ble_eq_true rfl) dL_law_766 ⟨(Nat.le_of_ble_eq_true rfl), (Nat.le_of_ble_eq_true rfl)⟩ (fun r_w u_w H locs hw hP hD hS => ?_)
              have hP : va_P g.1 vwCl (wX6 qX AX ++ wX1 g (AX 0) AC σC ++ wX1 g (AX 1) AD σD_1 ++ wX3 g (AX 3) AP σP_22 ++ wX2 (AX 4) σN_1 ++ wX5 g (AX 5) AW (.ref qH) σW_1 ++ wX4 g (AX 6) AY σY ++ wX0 g (AX 7) AK σK ℓK ++ wH g qH σH_1) H := hP.sub [29, 0, 1, 2, 3, 4, 5, 6, 7, 8, 9, 10, 11, 12, 13, 14, 15, 30, 31, 16, 17, 18, 19, 20, 21, 22, 23, 24, 25, 26, 27, 28] rfl
              have hD : va_D Z (wX6 qX AX ++ wX1 g (AX 0) AC σC ++ wX1 g (AX 1) AD σD_1 ++ wX3 g (AX 3) AP σP_22 ++ wX2 (AX 4) σN_1 ++ wX5 g (AX 5) AW (.ref qH) σW_1 ++ wX4 g (AX 6) AY σY ++ wX0 g (AX 7) AK σK ℓK ++ wH g qH σH_1) := hD.sub [29, 0, 1, 2, 3, 4, 5, 6, 7, 8, 9, 10, 11, 12, 13, 14, 15, 30, 31, 16, 17, 18, 19, 20, 21, 22, 23, 24, 25, 26, 27, 28] (by decide) rfl
              obtain rfl : r_21 = r_w := hw.symm
              refine lv_iconst (v := 4) hx hb dL_law_769 (by decide) ?_
              refine lv_icmp_ne (tgt := 935) hx hb dL_law_770 (by decide) (fun c_25 => ?_) (fun c_25 => ?_)
              · have hF := q_if_f c_25 hF
                refine lv_iconst (v := 0) hx hb dL_law_935 (by decide) ?_
                exact absurd hF (by decide)
              · have hF := q_if_t (by first | exact c_25 | exact Classical.not_not.mp c_25) hF
                refine lv_aload_n hx hb dL_law_773 rfl (lv_at hl 4 rfl) ?_
                refine lv_bipush (v := 42) hx hb dL_law_774 (by decide) ?_
                obtain ⟨⟨r_26, σP_27⟩, h_28, hF⟩ := q_cl_s hF
                try dsimp only at hF
                refine gcV_i (As := [.int 42]) (rest := []) (ci := 6) (q := (RX6, TX6, 8)) F hK hN hP hD hS hA (m_X6_say l g H.size qX AX AP σP_22 (42 : Int32) r_26 σP_27 h_28) gL_law_X6_say kX6_say rfl rfl rfl rfl ⟨(Nat.le_of_ble_eq_true rfl), (Nat.le_of_ble_eq_true rfl)⟩ [0, 17, 18] [1, 2, 3, 4, 5, 6, 7, 8, 9, 10, 11, 12, 13, 14, 15, 16, 19, 20, 21, 22, 23, 24, 25, 26, 27, 28, 29, 30, 31] rfl rfl rfl (by decide) rfl rfl rfl rfl rfl hl.1 (Nat.le_of_ble_eq_true rfl) dL_law_776 ⟨(Nat.le_of_ble_eq_true rfl), (Nat.le_of_ble_eq_true rfl)⟩ (fun r_w u_w H locs hw hP hD hS => ?_)
                have hP : va_P g.1 vwCl (wX6 qX AX ++ wX1 g (AX 0) AC σC ++ wX1 g (AX 1) AD σD_1 ++ wX3 g (AX 3) AP σP_27 ++ wX2 (AX 4) σN_1 ++ wX5 g (AX 5) AW (.ref qH) σW_1 ++ wX4 g (AX 6) AY σY ++ wX0 g (AX 7) AK σK ℓK ++ wH g qH σH_1) H := hP.sub [29, 0, 1, 2, 3, 4, 5, 6, 7, 8, 9, 10, 11, 12, 13, 14, 15, 30, 31, 16, 17, 18, 19, 20, 21, 22, 23, 24, 25, 26, 27, 28] rfl
                have hD : va_D Z (wX6 qX AX ++ wX1 g (AX 0) AC σC ++ wX1 g (AX 1) AD σD_1 ++ wX3 g (AX 3) AP σP_27 ++ wX2 (AX 4) σN_1 ++ wX5 g (AX 5) AW (.ref qH) σW_1 ++ wX4 g (AX 6) AY σY ++ wX0 g (AX 7) AK σK ℓK ++ wH g qH σH_1) := hD.sub [29, 0, 1, 2, 3, 4, 5, 6, 7, 8, 9, 10, 11, 12, 13, 14, 15, 30, 31, 16, 17, 18, 19, 20, 21, 22, 23, 24, 25, 26, 27, 28] (by decide) rfl
                obtain rfl : r_26 = r_w := hw.symm
                refine lv_iconst (v := 5) hx hb dL_law_779 (by decide) ?_
                refine lv_icmp_ne (tgt := 935) hx hb dL_law_780 (by decide) (fun c_30 => ?_) (fun c_30 => ?_)
                · have hF := q_if_f c_30 hF
                  refine lv_iconst (v := 0) hx hb dL_law_935 (by decide) ?_
                  exact absurd hF (by decide)
                · have hF := q_if_t (by first | exact c_30 | exact Classical.not_not.mp c_30) hF
                  refine lv_aload_n hx hb dL_law_783 rfl (lv_at hl 4 rfl) ?_
                  refine lv_iconst (v := 1) hx hb dL_law_784 (by decide) ?_
                  obtain ⟨⟨r_31, σN_32, σD_33⟩, h_34, hF⟩ := q_cl_s hF
                  try dsimp only at hF
                  refine gcV_i (As := [.int 1]) (rest := []) (ci := 6) (q := (RX6, TX6, 8)) F hK hN hP hD hS hA (m_X6_pan l g H.size qX AX σN_1 AP σP_27 AD σD_1 AC σC (1 : Int32) r_31 σN_32 σD_33 h_34) gL_law_X6_pan kX6_pan rfl rfl rfl rfl ⟨(Nat.le_of_ble_eq_true rfl), (Nat.le_of_ble_eq_true rfl)⟩ [0, 19, 17, 18, 9, 10, 11, 12, 13, 14, 15, 16, 1, 2, 3, 4, 5, 6, 7, 8] [20, 21, 22, 23, 24, 25, 26, 27, 28, 29, 30, 31] rfl rfl rfl (by decide) rfl rfl rfl rfl rfl hl.1 (Nat.le_of_ble_eq_true rfl) dL_law_785 ⟨(Nat.le_of_ble_eq_true rfl), (Nat.le_of_ble_eq_true rfl)⟩ (fun r_w u_w H locs hw hP hD hS => ?_)
                  have hP : va_P g.1 vwCl (wX6 qX AX ++ wX1 g (AX 0) AC σC ++ wX1 g (AX 1) AD σD_33 ++ wX3 g (AX 3) AP σP_27 ++ wX2 (AX 4) σN_32 ++ wX5 g (AX 5) AW (.ref qH) σW_1 ++ wX4 g (AX 6) AY σY ++ wX0 g (AX 7) AK σK ℓK ++ wH g qH σH_1) H := hP.sub [12, 24, 25, 26, 27, 28, 29, 30, 31, 16, 17, 18, 19, 20, 21, 22, 23, 14, 15, 13, 0, 1, 2, 3, 4, 5, 6, 7, 8, 9, 10, 11] rfl
                  have hD : va_D Z (wX6 qX AX ++ wX1 g (AX 0) AC σC ++ wX1 g (AX 1) AD σD_33 ++ wX3 g (AX 3) AP σP_27 ++ wX2 (AX 4) σN_32 ++ wX5 g (AX 5) AW (.ref qH) σW_1 ++ wX4 g (AX 6) AY σY ++ wX0 g (AX 7) AK σK ℓK ++ wH g qH σH_1) := hD.sub [12, 24, 25, 26, 27, 28, 29, 30, 31, 16, 17, 18, 19, 20, 21, 22, 23, 14, 15, 13, 0, 1, 2, 3, 4, 5, 6, 7, 8, 9, 10, 11] (by decide) rfl
                  obtain rfl : r_31 = r_w := hw.symm
                  refine lv_iload hx hb dL_law_788 (lv_at hl 1 rfl) ?_
                  refine lv_iconst (v := 5) hx hb dL_law_790 (by decide) ?_
                  refine lv_icmp_le (tgt := 801) hx hb dL_law_791 (by decide) (fun c_36 => ?_) (fun c_36 => ?_)
                  · have hF := q_if_t c_36 hF
                    refine lv_iconst (v := 0) hx hb dL_law_801 (by decide) ?_
                    refine lv_icmp_ne (tgt := 935) hx hb dL_law_802 (by decide) (fun c_37 => ?_) (fun c_37 => ?_)
                    · have hF := q_if_f c_37 hF
                      refine lv_iconst (v := 0) hx hb dL_law_935 (by decide) ?_
                      exact absurd hF (by decide)
                    · have hF := q_if_t (by first | exact c_37 | exact Classical.not_not.mp c_37) hF
                      refine lv_aload_n hx hb dL_law_805 rfl (lv_at hl 4 rfl) ?_
                      refine lv_iload hx hb dL_law_806 (lv_at hl 9 rfl) ?_
                      refine lv_iconst (v := 0) hx hb dL_law_808 (by decide) ?_
                      obtain ⟨⟨r_38, σN_39, σD_40⟩, h_41, hF⟩ := q_cl_s hF
                      try dsimp only at hF
                      refine gcV_i (As := [.int v10, .int 0]) (rest := []) (ci := 6) (q := (RX6, TX6, 8)) F hK hN hP hD hS hA (m_X6_behind l g H.size qX AX σN_32 AP σP_27 AD σD_33 AC σC v10 (0 : Int32) r_38 σN_39 σD_40 h_41) gL_law_X6_behind kX6_behind rfl rfl rfl rfl ⟨(Nat.le_of_ble_eq_true rfl), (Nat.le_of_ble_eq_true rfl)⟩ [0, 19, 17, 18, 9, 10, 11, 12, 13, 14, 15, 16, 1, 2, 3, 4, 5, 6, 7, 8] [20, 21, 22, 23, 24, 25, 26, 27, 28, 29, 30, 31] rfl rfl rfl (by decide) rfl rfl rfl rfl rfl hl.1 (Nat.le_of_ble_eq_true rfl) dL_law_809 ⟨(Nat.le_of_ble_eq_true rfl), (Nat.le_of_ble_eq_true rfl)⟩ (fun r_w u_w H locs hw hP hD hS => ?_)
                      have hP : va_P g.1 vwCl (wX6 qX AX ++ wX1 g (AX 0) AC σC ++ wX1 g (AX 1) AD σD_40 ++ wX3 g (AX 3) AP σP_27 ++ wX2 (AX 4) σN_39 ++ wX5 g (AX 5) AW (.ref qH) σW_1 ++ wX4 g (AX 6) AY σY ++ wX0 g (AX 7) AK σK ℓK ++ wH g qH σH_1) H := hP.sub [12, 24, 25, 26, 27, 28, 29, 30, 31, 16, 17, 18, 19, 20, 21, 22, 23, 14, 15, 13, 0, 1, 2, 3, 4, 5, 6, 7, 8, 9, 10, 11] rfl
                      have hD : va_D Z (wX6 qX AX ++ wX1 g (AX 0) AC σC ++ wX1 g (AX 1) AD σD_40 ++ wX3 g (AX 3) AP σP_27 ++ wX2 (AX 4) σN_39 ++ wX5 g (AX 5) AW (.ref qH) σW_1 ++ wX4 g (AX 6) AY σY ++ wX0 g (AX 7) AK σK ℓK ++ wH g qH σH_1) := hD.sub [12, 24, 25, 26, 27, 28, 29, 30, 31, 16, 17, 18, 19, 20, 21, 22, 23, 14, 15, 13, 0, 1, 2, 3, 4, 5, 6, 7, 8, 9, 10, 11] (by decide) rfl
                      obtain rfl : r_38 = r_w := hw.symm
                      refine lv_iload hx hb dL_law_812 (lv_at hl 0 rfl) ?_
                      refine lv_if_eq (tgt := 822) hx hb dL_law_814 (by decide) (fun c_43 => ?_) (fun c_43 => ?_)
                      · refine lv_bipush (v := (-6)) hx hb dL_law_822 (by decide) ?_
                        refine lv_icmp_ne (tgt := 935) hx hb dL_law_824 (by decide) (fun c_44 => ?_) (fun c_44 => ?_)
                        · have hF := q_if_f c_44 hF
                          refine lv_iconst (v := 0) hx hb dL_law_935 (by decide) ?_
                          exact absurd hF (by decide)
                        · have hF := q_if_t (by first | exact c_44 | exact Classical.not_not.mp c_44) hF
                          refine lv_aload_n hx hb dL_law_827 rfl (lv_at hl 4 rfl) ?_
                          refine lv_iload hx hb dL_law_828 (lv_at hl 9 rfl) ?_
                          refine lv_iconst (v := 1) hx hb dL_law_830 (by decide) ?_
                          obtain ⟨⟨r_45, σN_46, σD_47⟩, h_48, hF⟩ := q_cl_s hF
                          try dsimp only at hF
                          refine gcV_i (As := [.int v10, .int 1]) (rest := []) (ci := 6) (q := (RX6, TX6, 8)) F hK hN hP hD hS hA (m_X6_behind l g H.size qX AX σN_39 AP σP_27 AD σD_40 AC σC v10 (1 : Int32) r_45 σN_46 σD_47 h_48) gL_law_X6_behind kX6_behind rfl rfl rfl rfl ⟨(Nat.le_of_ble_eq_true rfl), (Nat.le_of_ble_eq_true rfl)⟩ [0, 19, 17, 18, 9, 10, 11, 12, 13, 14, 15, 16, 1, 2, 3, 4, 5, 6, 7, 8] [20, 21, 22, 23, 24, 25, 26, 27, 28, 29, 30, 31] rfl rfl rfl (by decide) rfl rfl rfl rfl rfl hl.1 (Nat.le_of_ble_eq_true rfl) dL_law_831 ⟨(Nat.le_of_ble_eq_true rfl), (Nat.le_of_ble_eq_true rfl)⟩ (fun r_w u_w H locs hw hP hD hS => ?_)
                          have hP : va_P g.1 vwCl (wX6 qX AX ++ wX1 g (AX 0) AC σC ++ wX1 g (AX 1) AD σD_47 ++ wX3 g (AX 3) AP σP_27 ++ wX2 (AX 4) σN_46 ++ wX5 g (AX 5) AW (.ref qH) σW_1 ++ wX4 g (AX 6) AY σY ++ wX0 g (AX 7) AK σK ℓK ++ wH g qH σH_1) H := hP.sub [12, 24, 25, 26, 27, 28, 29, 30, 31, 16, 17, 18, 19, 20, 21, 22, 23, 14, 15, 13, 0, 1, 2, 3, 4, 5, 6, 7, 8, 9, 10, 11] rfl
                          have hD : va_D Z (wX6 qX AX ++ wX1 g (AX 0) AC σC ++ wX1 g (AX 1) AD σD_47 ++ wX3 g (AX 3) AP σP_27 ++ wX2 (AX 4) σN_46 ++ wX5 g (AX 5) AW (.ref qH) σW_1 ++ wX4 g (AX 6) AY σY ++ wX0 g (AX 7) AK σK ℓK ++ wH g qH σH_1) := hD.sub [12, 24, 25, 26, 27, 28, 29, 30, 31, 16, 17, 18, 19, 20, 21, 22, 23, 14, 15, 13, 0, 1, 2, 3, 4, 5, 6, 7, 8, 9, 10, 11] (by decide) rfl
                          obtain rfl : r_45 = r_w := hw.symm
                          refine lv_iload hx hb dL_law_834 (lv_at hl 0 rfl) ?_
                          refine lv_if_ne (tgt := 846) hx hb dL_law_836 (by decide) (fun c_50 => ?_) (fun c_50 => ?_)
                          · first | exact absurd c_50 (by decide) | exact c_50 (by decide)
                          · refine lv_iload hx hb dL_law_839 (lv_at hl 10 rfl) ?_
                            refine lv_bipush (v := 9) hx hb dL_law_841 (by decide) ?_
                            refine lv_icmp_ne (tgt := 851) hx hb dL_law_843 (by decide) (fun c_51 => ?_) (fun c_51 => ?_)
                            · have hF := q_if_f c_51 hF
                              refine lv_iload hx hb dL_law_851 (lv_at hl 10 rfl) ?_
                              refine lv_iconst (v := 1) hx hb dL_law_853 (by decide) ?_
                              refine lv_iadd hx hb dL_law_854 ?_
                              refine lv_icmp_ne (tgt := 935) hx hb dL_law_855 (by decide) (fun c_52 => ?_) (fun c_52 => ?_)
                              · have hF := q_if_f c_52 hF
                                refine lv_iconst (v := 0) hx hb dL_law_935 (by decide) ?_
                                exact absurd hF (by decide)
                              · have hF := q_if_t (by first | exact c_52 | exact Classical.not_not.mp c_52) hF
                                refine lv_aload_n hx hb dL_law_858 rfl (lv_at hl 4 rfl) ?_
                                refine lv_iconst (v := 1) hx hb dL_law_859 (by decide) ?_
                                obtain ⟨⟨r_53, σN_54, σD_55⟩, h_56, hF⟩ := q_cl_s hF
                                try dsimp only at hF
                                refine gcV_i (As := [.int 1]) (rest := []) (ci := 6) (q := (RX6, TX6, 8)) F hK hN hP hD hS hA (m_X6_other l g H.size qX AX σN_46 AP σP_27 AD σD_47 AC σC (1 : Int32) r_53 σN_54 σD_55 h_56) gL_law_X6_other kX6_other rfl rfl rfl rfl ⟨(Nat.le_of_ble_eq_true rfl), (Nat.le_of_ble_eq_true rfl)⟩ [0, 19, 17, 18, 9, 10, 11, 12, 13, 14, 15, 16, 1, 2, 3, 4, 5, 6, 7, 8] [20, 21, 22, 23, 24, 25, 26, 27, 28, 29, 30, 31] rfl rfl rfl (by decide) rfl rfl rfl rfl rfl hl.1 (Nat.le_of_ble_eq_true rfl) dL_law_860 ⟨(Nat.le_of_ble_eq_true rfl), (Nat.le_of_ble_eq_true rfl)⟩ (fun r_w u_w H locs hw hP hD hS => ?_)
                                have hP : va_P g.1 vwCl (wX6 qX AX ++ wX1 g (AX 0) AC σC ++ wX1 g (AX 1) AD σD_55 ++ wX3 g (AX 3) AP σP_27 ++ wX2 (AX 4) σN_54 ++ wX5 g (AX 5) AW (.ref qH) σW_1 ++ wX4 g (AX 6) AY σY ++ wX0 g (AX 7) AK σK ℓK ++ wH g qH σH_1) H := hP.sub [12, 24, 25, 26, 27, 28, 29, 30, 31, 16, 17, 18, 19, 20, 21, 22, 23, 14, 15, 13, 0, 1, 2, 3, 4, 5, 6, 7, 8, 9, 10, 11] rfl
                                have hD : va_D Z (wX6 qX AX ++ wX1 g (AX 0) AC σC ++ wX1 g (AX 1) AD σD_55 ++ wX3 g (AX 3) AP σP_27 ++ wX2 (AX 4) σN_54 ++ wX5 g (AX 5) AW (.ref qH) σW_1 ++ wX4 g (AX 6) AY σY ++ wX0 g (AX 7) AK σK ℓK ++ wH g qH σH_1) := hD.sub [12, 24, 25, 26, 27, 28, 29, 30, 31, 16, 17, 18, 19, 20, 21, 22, 23, 14, 15, 13, 0, 1, 2, 3, 4, 5, 6, 7, 8, 9, 10, 11] (by decide) rfl
                                obtain rfl : r_53 = r_w := hw.symm
                                refine lv_iload hx hb dL_law_863 (lv_at hl 0 rfl) ?_
                                refine lv_if_eq (tgt := 873) hx hb dL_law_865 (by decide) (fun c_58 => ?_) (fun c_58 => ?_)
                                · refine lv_bipush (v := (-6)) hx hb dL_law_873 (by decide) ?_
                                  refine lv_icmp_ne (tgt := 935) hx hb dL_law_875 (by decide) (fun c_59 => ?_) (fun c_59 => ?_)
                                  · have hF := q_if_f c_59 hF
                                    refine lv_iconst (v := 0) hx hb dL_law_935 (by decide) ?_
                                    exact absurd hF (by decide)
                                  · have hF := q_if_t (by first | exact c_59 | exact Classical.not_not.mp c_59) hF
                                    refine lv_aload_n hx hb dL_law_878 rfl (lv_at hl 4 rfl) ?_
                                    obtain ⟨⟨r_60, σP_61⟩, h_62, hF⟩ := q_cl_s hF
                                    try dsimp only at hF
                                    refine gcV_i (As := []) (rest := []) (ci := 6) (q := (RX6, TX6, 8)) F hK hN hP hD hS hA (m_X6_wipe l g H.size qX AX AP σP_27 r_60 σP_61 h_62) gL_law_X6_wipe kX6_wipe rfl rfl rfl rfl ⟨(Nat.le_of_ble_eq_true rfl), (Nat.le_of_ble_eq_true rfl)⟩ [0, 17, 18] [1, 2, 3, 4, 5, 6, 7, 8, 9, 10, 11, 12, 13, 14, 15, 16, 19, 20, 21, 22, 23, 24, 25, 26, 27, 28, 29, 30, 31] rfl rfl rfl (by decide) rfl rfl rfl rfl rfl hl.1 (Nat.le_of_ble_eq_true rfl) dL_law_879 ⟨(Nat.le_of_ble_eq_true rfl), (Nat.le_of_ble_eq_true rfl)⟩ (fun r_w u_w H locs hw hP hD hS => ?_)
                                    have hP : va_P g.1 vwCl (wX6 qX AX ++ wX1 g (AX 0) AC σC ++ wX1 g (AX 1) AD σD_55 ++ wX3 g (AX 3) AP σP_61 ++ wX2 (AX 4) σN_54 ++ wX5 g (AX 5) AW (.ref qH) σW_1 ++ wX4 g (AX 6) AY σY ++ wX0 g (AX 7) AK σK ℓK ++ wH g qH σH_1) H := hP.sub [29, 0, 1, 2, 3, 4, 5, 6, 7, 8, 9, 10, 11, 12, 13, 14, 15, 30, 31, 16, 17, 18, 19, 20, 21, 22, 23, 24, 25, 26, 27, 28] rfl
                                    have hD : va_D Z (wX6 qX AX ++ wX1 g (AX 0) AC σC ++ wX1 g (AX 1) AD σD_55 ++ wX3 g (AX 3) AP σP_61 ++ wX2 (AX 4) σN_54 ++ wX5 g (AX 5) AW (.ref qH) σW_1 ++ wX4 g (AX 6) AY σY ++ wX0 g (AX 7) AK σK ℓK ++ wH g qH σH_1) := hD.sub [29, 0, 1, 2, 3, 4, 5, 6, 7, 8, 9, 10, 11, 12, 13, 14, 15, 30, 31, 16, 17, 18, 19, 20, 21, 22, 23, 24, 25, 26, 27, 28] (by decide) rfl
                                    obtain rfl : r_60 = r_w := hw.symm
                                    refine lv_iconst (v := 5) hx hb dL_law_882 (by decide) ?_
                                    refine lv_icmp_ne (tgt := 935) hx hb dL_law_883 (by decide) (fun c_64 => ?_) (fun c_64 => ?_)
                                    · have hF := q_if_f c_64 hF
                                      refine lv_iconst (v := 0) hx hb dL_law_935 (by decide) ?_
                                      exact absurd hF (by decide)
                                    · have hF := q_if_t (by first | exact c_64 | exact Classical.not_not.mp c_64) hF
                                      refine lv_aload_n hx hb dL_law_886 rfl (lv_at hl 4 rfl) ?_
                                      refine lv_bipush (v := 10) hx hb dL_law_887 (by decide) ?_
                                      refine lv_iload hx hb dL_law_889 (lv_at hl 2 rfl) ?_
                                      refine lv_imul hx hb dL_law_891 ?_
                                      refine lv_iconst (v := 0) hx hb dL_law_892 (by decide) ?_
                                      obtain ⟨⟨r_65, σW_66, σH_67⟩, h_68, hF⟩ := q_cl_s hF
                                      try dsimp only at hF
                                      refine gcV_i (As := [.int ((10 : Int32) * v13_1), .int 0]) (rest := []) (ci := 6) (q := (RX6, TX6, 8)) F hK hN hP hD hS hA (m_X6_round l g H.size qX AX AW σW_1 qH σH_1 AC σC ((10 : Int32) * v13_1) (0 : Int32) r_65 σW_66 σH_67 h_68) gL_law_X6_round kX6_round rfl rfl rfl rfl ⟨(Nat.le_of_ble_eq_true rfl), (Nat.le_of_ble_eq_true rfl)⟩ [0, 20, 21, 22, 31, 1, 2, 3, 4, 5, 6, 7, 8] [9, 10, 11, 12, 13, 14, 15, 16, 17, 18, 19, 23, 24, 25, 26, 27, 28, 29, 30] rfl rfl rfl (by decide) rfl rfl rfl rfl rfl hl.1 (Nat.le_of_ble_eq_true rfl) dL_law_893 ⟨(Nat.le_of_ble_eq_true rfl), (Nat.le_of_ble_eq_true rfl)⟩ (fun r_w u_w H locs hw hP hD hS => ?_)
                                      have hP : va_P g.1 vwCl (wX6 qX AX ++ wX1 g (AX 0) AC σC ++ wX1 g (AX 1) AD σD_55 ++ wX3 g (AX 3) AP σP_61 ++ wX2 (AX 4) σN_54 ++ wX5 g (AX 5) AW (.ref qH) σW_66 ++ wX4 g (AX 6) AY σY ++ wX0 g (AX 7) AK σK ℓK ++ wH g qH σH_67) H := hP.sub [19, 24, 25, 26, 27, 28, 29, 30, 31, 0, 1, 2, 3, 4, 5, 6, 7, 8, 9, 10, 20, 21, 22, 11, 12, 13, 14, 15, 16, 17, 18, 23] rfl
                                      have hD : va_D Z (wX6 qX AX ++ wX1 g (AX 0) AC σC ++ wX1 g (AX 1) AD σD_55 ++ wX3 g (AX 3) AP σP_61 ++ wX2 (AX 4) σN_54 ++ wX5 g (AX 5) AW (.ref qH) σW_66 ++ wX4 g (AX 6) AY σY ++ wX0 g (AX 7) AK σK ℓK ++ wH g qH σH_67) := hD.sub [19, 24, 25, 26, 27, 28, 29, 30, 31, 0, 1, 2, 3, 4, 5, 6, 7, 8, 9, 10, 20, 21, 22, 11, 12, 13, 14, 15, 16, 17, 18, 23] (by decide) rfl
                                      obtain rfl : r_65 = r_w := hw.symm
                                      refine lv_iload hx hb dL_law_896 (lv_at hl 0 rfl) ?_
                                      refine lv_if_eq (tgt := 905) hx hb dL_law_898 (by decide) (fun c_70 => ?_) (fun c_70 => ?_)
                                      · refine lv_iconst (v := 0) hx hb dL_law_905 (by decide) ?_
                                        refine lv_icmp_ne (tgt := 935) hx hb dL_law_906 (by decide) (fun c_71 => ?_) (fun c_71 => ?_)
                                        · have hF := q_if_f c_71 hF
                                          refine lv_iconst (v := 0) hx hb dL_law_935 (by decide) ?_
                                          exact absurd hF (by decide)
                                        · have hF := q_if_t (by first | exact c_71 | exact Classical.not_not.mp c_71) hF
                                          refine lv_aload_n hx hb dL_law_909 rfl (lv_at hl 4 rfl) ?_
                                          refine lv_bipush (v := 10) hx hb dL_law_910 (by decide) ?_
                                          refine lv_iload hx hb dL_law_912 (lv_at hl 2 rfl) ?_
                                          refine lv_imul hx hb dL_law_914 ?_
                                          refine lv_iconst (v := 1) hx hb dL_law_915 (by decide) ?_
                                          obtain ⟨⟨r_72, σW_73, σH_74⟩, h_75, hF⟩ := q_cl_s hF
                                          try dsimp only at hF
                                          refine gcV_i (As := [.int ((10 : Int32) * v13_1), .int 1]) (rest := []) (ci := 6) (q := (RX6, TX6, 8)) F hK hN hP hD hS hA (m_X6_round l g H.size qX AX AW σW_66 qH σH_67 AC σC ((10 : Int32) * v13_1) (1 : Int32) r_72 σW_73 σH_74 h_75) gL_law_X6_round kX6_round rfl rfl rfl rfl ⟨(Nat.le_of_ble_eq_true rfl), (Nat.le_of_ble_eq_true rfl)⟩ [0, 20, 21, 22, 31, 1, 2, 3, 4, 5, 6, 7, 8] [9, 10, 11, 12, 13, 14, 15, 16, 17, 18, 19, 23, 24, 25, 26, 27, 28, 29, 30] rfl rfl rfl (by decide) rfl rfl rfl rfl rfl hl.1 (Nat.le_of_ble_eq_true rfl) dL_law_916 ⟨(Nat.le_of_ble_eq_true rfl), (Nat.le_of_ble_eq_true rfl)⟩ (fun r_w u_w H locs hw hP hD hS => ?_)
                                          have hP : va_P g.1 vwCl (wX6 qX AX ++ wX1 g (AX 0) AC σC ++ wX1 g (AX 1) AD σD_55 ++ wX3 g (AX 3) AP σP_61 ++ wX2 (AX 4) σN_54 ++ wX5 g (AX 5) AW (.ref qH) σW_73 ++ wX4 g (AX 6) AY σY ++ wX0 g (AX 7) AK σK ℓK ++ wH g qH σH_74) H := hP.sub [19, 24, 25, 26, 27, 28, 29, 30, 31, 0, 1, 2, 3, 4, 5, 6, 7, 8, 9, 10, 20, 21, 22, 11, 12, 13, 14, 15, 16, 17, 18, 23] rfl
                                          have hD : va_D Z (wX6 qX AX ++ wX1 g (AX 0) AC σC ++ wX1 g (AX 1) AD σD_55 ++ wX3 g (AX 3) AP σP_61 ++ wX2 (AX 4) σN_54 ++ wX5 g (AX 5) AW (.ref qH) σW_73 ++ wX4 g (AX 6) AY σY ++ wX0 g (AX 7) AK σK ℓK ++ wH g qH σH_74) := hD.sub [19, 24, 25, 26, 27, 28, 29, 30, 31, 0, 1, 2, 3, 4, 5, 6, 7, 8, 9, 10, 20, 21, 22, 11, 12, 13, 14, 15, 16, 17, 18, 23] (by decide) rfl
                                          obtain rfl : r_72 = r_w := hw.symm
                                          refine lv_iload hx hb dL_law_919 (lv_at hl 0 rfl) ?_
                                          refine lv_if_eq (tgt := 931) hx hb dL_law_921 (by decide) (fun c_77 => ?_) (fun c_77 => ?_)
                                          · refine lv_iconst (v := 0) hx hb dL_law_931 (by decide) ?_
                                            refine lv_icmp_eq (tgt := 937) hx hb dL_law_932 (by decide) (fun c_78 => ?_) (fun c_78 => ?_)
                                            · have hF := q_if_t c_78 hF
                                              refine lv_iinc (v := v13_1 + 1) (lv' := [(13, .int (v13_1 + 1)), (15, .int 0), (14, .int v14_3), (0, .ref b), (1, .ref qX), (2, .int v2), (4, .int v4), (7, .int v7), (9, .int v9), (10, .int v10), (11, .int v11), (12, .int v12)]) hx hb dL_law_937 hl (k := 2) rfl rfl (by decide) rfl (fun ls hl => ?_)
                                              refine lv_goto (tgt := 690) hx hb dL_law_940 (by decide) ?_
                                              exact ag (v13_1 + 1, σD_55, σP_61, σN_54, σW_73, σH_74) hF _ _ _ hP hD hS (lv_sub hl [0, 3, 4, 5, 6, 7, 8, 9, 10, 11] rfl)
                                            · have hF := q_if_f c_78 hF
                                              refine lv_iconst (v := 0) hx hb dL_law_935 (by decide) ?_
                                              exact absurd hF (by decide)
                                          · first | exact absurd c_77 (by decide) | exact c_77 (by decide)
                                      · first | exact absurd c_70 (by decide) | exact c_70 (by decide)
                                · first | exact absurd c_58 (by decide) | exact c_58 (by decide)
                            · have hF := q_if_t (by first | exact c_51 | exact Classical.not_not.mp c_51) hF
                              refine lv_iload hx hb dL_law_846 (lv_at hl 10 rfl) ?_
                              refine lv_goto (tgt := 855) hx hb dL_law_848 (by decide) ?_
                              refine lv_icmp_ne (tgt := 935) hx hb dL_law_855 (by decide) (fun c_79 => ?_) (fun c_79 => ?_)
                              · have hF := q_if_f c_79 hF
                                refine lv_iconst (v := 0) hx hb dL_law_935 (by decide) ?_
                                exact absurd hF (by decide)
                              · have hF := q_if_t (by first | exact c_79 | exact Classical.not_not.mp c_79) hF
                                refine lv_aload_n hx hb dL_law_858 rfl (lv_at hl 4 rfl) ?_
                                refine lv_iconst (v := 1) hx hb dL_law_859 (by decide) ?_
                                obtain ⟨⟨r_80, σN_81, σD_82⟩, h_83, hF⟩ := q_cl_s hF
                                try dsimp only at hF
                                refine gcV_i (As := [.int 1]) (rest := []) (ci := 6) (q := (RX6, TX6, 8)) F hK hN hP hD hS hA (m_X6_other l g H.size qX AX σN_46 AP σP_27 AD σD_47 AC σC (1 : Int32) r_80 σN_81 σD_82 h_83) gL_law_X6_other kX6_other rfl rfl rfl rfl ⟨(Nat.le_of_ble_eq_true rfl), (Nat.le_of_ble_eq_true rfl)⟩ [0, 19, 17, 18, 9, 10, 11, 12, 13, 14, 15, 16, 1, 2, 3, 4, 5, 6, 7, 8] [20, 21, 22, 23, 24, 25, 26, 27, 28, 29, 30, 31] rfl rfl rfl (by decide) rfl rfl rfl rfl rfl hl.1 (Nat.le_of_ble_eq_true rfl) dL_law_860 ⟨(Nat.le_of_ble_eq_true rfl), (Nat.le_of_ble_eq_true rfl)⟩ (fun r_w u_w H locs hw hP hD hS => ?_)
                                have hP : va_P g.1 vwCl (wX6 qX AX ++ wX1 g (AX 0) AC σC ++ wX1 g (AX 1) AD σD_82 ++ wX3 g (AX 3) AP σP_27 ++ wX2 (AX 4) σN_81 ++ wX5 g (AX 5) AW (.ref qH) σW_1 ++ wX4 g (AX 6) AY σY ++ wX0 g (AX 7) AK σK ℓK ++ wH g qH σH_1) H := hP.sub [12, 24, 25, 26, 27, 28, 29, 30, 31, 16, 17, 18, 19, 20, 21, 22, 23, 14, 15, 13, 0, 1, 2, 3, 4, 5, 6, 7, 8, 9, 10, 11] rfl
                                have hD : va_D Z (wX6 qX AX ++ wX1 g (AX 0) AC σC ++ wX1 g (AX 1) AD σD_82 ++ wX3 g (AX 3) AP σP_27 ++ wX2 (AX 4) σN_81 ++ wX5 g (AX 5) AW (.ref qH) σW_1 ++ wX4 g (AX 6) AY σY ++ wX0 g (AX 7) AK σK ℓK ++ wH g qH σH_1) := hD.sub [12, 24, 25, 26, 27, 28, 29, 30, 31, 16, 17, 18, 19, 20, 21, 22, 23, 14, 15, 13, 0, 1, 2, 3, 4, 5, 6, 7, 8, 9, 10, 11] (by decide) rfl
                                obtain rfl : r_80 = r_w := hw.symm
                                refine lv_iload hx hb dL_law_863 (lv_at hl 0 rfl) ?_
                                refine lv_if_eq (tgt := 873) hx hb dL_law_865 (by decide) (fun c_85 => ?_) (fun c_85 => ?_)
                                · refine lv_bipush (v := (-6)) hx hb dL_law_873 (by decide) ?_
                                  refine lv_icmp_ne (tgt := 935) hx hb dL_law_875 (by decide) (fun c_86 => ?_) (fun c_86 => ?_)
                                  · have hF := q_if_f c_86 hF
                                    refine lv_iconst (v := 0) hx hb dL_law_935 (by decide) ?_
                                    exact absurd hF (by decide)
                                  · have hF := q_if_t (by first | exact c_86 | exact Classical.not_not.mp c_86) hF
                                    refine lv_aload_n hx hb dL_law_878 rfl (lv_at hl 4 rfl) ?_
                                    obtain ⟨⟨r_87, σP_88⟩, h_89, hF⟩ := q_cl_s hF
                                    try dsimp only at hF
                                    refine gcV_i (As := []) (rest := []) (ci := 6) (q := (RX6, TX6, 8)) F hK hN hP hD hS hA (m_X6_wipe l g H.size qX AX AP σP_27 r_87 σP_88 h_89) gL_law_X6_wipe kX6_wipe rfl rfl rfl rfl ⟨(Nat.le_of_ble_eq_true rfl), (Nat.le_of_ble_eq_true rfl)⟩ [0, 17, 18] [1, 2, 3, 4, 5, 6, 7, 8, 9, 10, 11, 12, 13, 14, 15, 16, 19, 20, 21, 22, 23, 24, 25, 26, 27, 28, 29, 30, 31] rfl rfl rfl (by decide) rfl rfl rfl rfl rfl hl.1 (Nat.le_of_ble_eq_true rfl) dL_law_879 ⟨(Nat.le_of_ble_eq_true rfl), (Nat.le_of_ble_eq_true rfl)⟩ (fun r_w u_w H locs hw hP hD hS => ?_)
                                    have hP : va_P g.1 vwCl (wX6 qX AX ++ wX1 g (AX 0) AC σC ++ wX1 g (AX 1) AD σD_82 ++ wX3 g (AX 3) AP σP_88 ++ wX2 (AX 4) σN_81 ++ wX5 g (AX 5) AW (.ref qH) σW_1 ++ wX4 g (AX 6) AY σY ++ wX0 g (AX 7) AK σK ℓK ++ wH g qH σH_1) H := hP.sub [29, 0, 1, 2, 3, 4, 5, 6, 7, 8, 9, 10, 11, 12, 13, 14, 15, 30, 31, 16, 17, 18, 19, 20, 21, 22, 23, 24, 25, 26, 27, 28] rfl
                                    have hD : va_D Z (wX6 qX AX ++ wX1 g (AX 0) AC σC ++ wX1 g (AX 1) AD σD_82 ++ wX3 g (AX 3) AP σP_88 ++ wX2 (AX 4) σN_81 ++ wX5 g (AX 5) AW (.ref qH) σW_1 ++ wX4 g (AX 6) AY σY ++ wX0 g (AX 7) AK σK ℓK ++ wH g qH σH_1) := hD.sub [29, 0, 1, 2, 3, 4, 5, 6, 7, 8, 9, 10, 11, 12, 13, 14, 15, 30, 31, 16, 17, 18, 19, 20, 21, 22, 23, 24, 25, 26, 27, 28] (by decide) rfl
                                    obtain rfl : r_87 = r_w := hw.symm
                                    refine lv_iconst (v := 5) hx hb dL_law_882 (by decide) ?_
                                    refine lv_icmp_ne (tgt := 935) hx hb dL_law_883 (by decide) (fun c_91 => ?_) (fun c_91 => ?_)
                                    · have hF := q_if_f c_91 hF
                                      refine lv_iconst (v := 0) hx hb dL_law_935 (by decide) ?_
                                      exact absurd hF (by decide)
                                    · have hF := q_if_t (by first | exact c_91 | exact Classical.not_not.mp c_91) hF
                                      refine lv_aload_n hx hb dL_law_886 rfl (lv_at hl 4 rfl) ?_
                                      refine lv_bipush (v := 10) hx hb dL_law_887 (by decide) ?_
                                      refine lv_iload hx hb dL_law_889 (lv_at hl 2 rfl) ?_
                                      refine lv_imul hx hb dL_law_891 ?_
                                      refine lv_iconst (v := 0) hx hb dL_law_892 (by decide) ?_
                                      obtain ⟨⟨r_92, σW_93, σH_94⟩, h_95, hF⟩ := q_cl_s hF
                                      try dsimp only at hF
                                      refine gcV_i (As := [.int ((10 : Int32) * v13_1), .int 0]) (rest := []) (ci := 6) (q := (RX6, TX6, 8)) F hK hN hP hD hS hA (m_X6_round l g H.size qX AX AW σW_1 qH σH_1 AC σC ((10 : Int32) * v13_1) (0 : Int32) r_92 σW_93 σH_94 h_95) gL_law_X6_round kX6_round rfl rfl rfl rfl ⟨(Nat.le_of_ble_eq_true rfl), (Nat.le_of_ble_eq_true rfl)⟩ [0, 20, 21, 22, 31, 1, 2, 3, 4, 5, 6, 7, 8] [9, 10, 11, 12, 13, 14, 15, 16, 17, 18, 19, 23, 24, 25, 26, 27, 28, 29, 30] rfl rfl rfl (by decide) rfl rfl rfl rfl rfl hl.1 (Nat.le_of_ble_eq_true rfl) dL_law_893 ⟨(Nat.le_of_ble_eq_true rfl), (Nat.le_of_ble_eq_true rfl)⟩ (fun r_w u_w H locs hw hP hD hS => ?_)
                                      have hP : va_P g.1 vwCl (wX6 qX AX ++ wX1 g (AX 0) AC σC ++ wX1 g (AX 1) AD σD_82 ++ wX3 g (AX 3) AP σP_88 ++ wX2 (AX 4) σN_81 ++ wX5 g (AX 5) AW (.ref qH) σW_93 ++ wX4 g (AX 6) AY σY ++ wX0 g (AX 7) AK σK ℓK ++ wH g qH σH_94) H := hP.sub [19, 24, 25, 26, 27, 28, 29, 30, 31, 0, 1, 2, 3, 4, 5, 6, 7, 8, 9, 10, 20, 21, 22, 11, 12, 13, 14, 15, 16, 17, 18, 23] rfl
                                      have hD : va_D Z (wX6 qX AX ++ wX1 g (AX 0) AC σC ++ wX1 g (AX 1) AD σD_82 ++ wX3 g (AX 3) AP σP_88 ++ wX2 (AX 4) σN_81 ++ wX5 g (AX 5) AW (.ref qH) σW_93 ++ wX4 g (AX 6) AY σY ++ wX0 g (AX 7) AK σK ℓK ++ wH g qH σH_94) := hD.sub [19, 24, 25, 26, 27, 28, 29, 30, 31, 0, 1, 2, 3, 4, 5, 6, 7, 8, 9, 10, 20, 21, 22, 11, 12, 13, 14, 15, 16, 17, 18, 23] (by decide) rfl
                                      obtain rfl : r_92 = r_w := hw.symm
                                      refine lv_iload hx hb dL_law_896 (lv_at hl 0 rfl) ?_
                                      refine lv_if_eq (tgt := 905) hx hb dL_law_898 (by decide) (fun c_97 => ?_) (fun c_97 => ?_)
                                      · refine lv_iconst (v := 0) hx hb dL_law_905 (by decide) ?_
                                        refine lv_icmp_ne (tgt := 935) hx hb dL_law_906 (by decide) (fun c_98 => ?_) (fun c_98 => ?_)
                                        · have hF := q_if_f c_98 hF
                                          refine lv_iconst (v := 0) hx hb dL_law_935 (by decide) ?_
                                          exact absurd hF (by decide)
                                        · have hF := q_if_t (by first | exact c_98 | exact Classical.not_not.mp c_98) hF
                                          refine lv_aload_n hx hb dL_law_909 rfl (lv_at hl 4 rfl) ?_
                                          refine lv_bipush (v := 10) hx hb dL_law_910 (by decide) ?_
                                          refine lv_iload hx hb dL_law_912 (lv_at hl 2 rfl) ?_
                                          refine lv_imul hx hb dL_law_914 ?_
                                          refine lv_iconst (v := 1) hx hb dL_law_915 (by decide) ?_
                                          obtain ⟨⟨r_99, σW_100, σH_101⟩, h_102, hF⟩ := q_cl_s hF
                                          try dsimp only at hF
                                          refine gcV_i (As := [.int ((10 : Int32) * v13_1), .int 1]) (rest := []) (ci := 6) (q := (RX6, TX6, 8)) F hK hN hP hD hS hA (m_X6_round l g H.size qX AX AW σW_93 qH σH_94 AC σC ((10 : Int32) * v13_1) (1 : Int32) r_99 σW_100 σH_101 h_102) gL_law_X6_round kX6_round rfl rfl rfl rfl ⟨(Nat.le_of_ble_eq_true rfl), (Nat.le_of_ble_eq_true rfl)⟩ [0, 20, 21, 22, 31, 1, 2, 3, 4, 5, 6, 7, 8] [9, 10, 11, 12, 13, 14, 15, 16, 17, 18, 19, 23, 24, 25, 26, 27, 28, 29, 30] rfl rfl rfl (by decide) rfl rfl rfl rfl rfl hl.1 (Nat.le_of_ble_eq_true rfl) dL_law_916 ⟨(Nat.le_of_ble_eq_true rfl), (Nat.le_of_ble_eq_true rfl)⟩ (fun r_w u_w H locs hw hP hD hS => ?_)
                                          have hP : va_P g.1 vwCl (wX6 qX AX ++ wX1 g (AX 0) AC σC ++ wX1 g (AX 1) AD σD_82 ++ wX3 g (AX 3) AP σP_88 ++ wX2 (AX 4) σN_81 ++ wX5 g (AX 5) AW (.ref qH) σW_100 ++ wX4 g (AX 6) AY σY ++ wX0 g (AX 7) AK σK ℓK ++ wH g qH σH_101) H := hP.sub [19, 24, 25, 26, 27, 28, 29, 30, 31, 0, 1, 2, 3, 4, 5, 6, 7, 8, 9, 10, 20, 21, 22, 11, 12, 13, 14, 15, 16, 17, 18, 23] rfl
                                          have hD : va_D Z (wX6 qX AX ++ wX1 g (AX 0) AC σC ++ wX1 g (AX 1) AD σD_82 ++ wX3 g (AX 3) AP σP_88 ++ wX2 (AX 4) σN_81 ++ wX5 g (AX 5) AW (.ref qH) σW_100 ++ wX4 g (AX 6) AY σY ++ wX0 g (AX 7) AK σK ℓK ++ wH g qH σH_101) := hD.sub [19, 24, 25, 26, 27, 28, 29, 30, 31, 0, 1, 2, 3, 4, 5, 6, 7, 8, 9, 10, 20, 21, 22, 11, 12, 13, 14, 15, 16, 17, 18, 23] (by decide) rfl
                                          obtain rfl : r_99 = r_w := hw.symm
                                          refine lv_iload hx hb dL_law_919 (lv_at hl 0 rfl) ?_
                                          refine lv_if_eq (tgt := 931) hx hb dL_law_921 (by decide) (fun c_104 => ?_) (fun c_104 => ?_)
                                          · refine lv_iconst (v := 0) hx hb dL_law_931 (by decide) ?_
                                            refine lv_icmp_eq (tgt := 937) hx hb dL_law_932 (by decide) (fun c_105 => ?_) (fun c_105 => ?_)
                                            · have hF := q_if_t c_105 hF
                                              refine lv_iinc (v := v13_1 + 1) (lv' := [(13, .int (v13_1 + 1)), (15, .int 0), (14, .int v14_3), (0, .ref b), (1, .ref qX), (2, .int v2), (4, .int v4), (7, .int v7), (9, .int v9), (10, .int v10), (11, .int v11), (12, .int v12)]) hx hb dL_law_937 hl (k := 2) rfl rfl (by decide) rfl (fun ls hl => ?_)
                                              refine lv_goto (tgt := 690) hx hb dL_law_940 (by decide) ?_
                                              exact ag (v13_1 + 1, σD_82, σP_88, σN_81, σW_100, σH_101) hF _ _ _ hP hD hS (lv_sub hl [0, 3, 4, 5, 6, 7, 8, 9, 10, 11] rfl)
                                            · have hF := q_if_f c_105 hF
                                              refine lv_iconst (v := 0) hx hb dL_law_935 (by decide) ?_
                                              exact absurd hF (by decide)
                                          · first | exact absurd c_104 (by decide) | exact c_104 (by decide)
                                      · first | exact absurd c_97 (by decide) | exact c_97 (by decide)
                                · first | exact absurd c_85 (by decide) | exact c_85 (by decide)
                      · first | exact absurd c_43 (by decide) | exact c_43 (by decide)
                  · have hF := q_if_f c_36 hF
                    refine lv_iload hx hb dL_law_794 (lv_at hl 1 rfl) ?_
                    refine lv_iconst (v := 5) hx hb dL_law_796 (by decide) ?_
                    refine lv_isub hx hb dL_law_797 ?_
                    refine lv_goto (tgt := 802) hx hb dL_law_798 (by decide) ?_
                    refine lv_icmp_ne (tgt := 935) hx hb dL_law_802 (by decide) (fun c_106 => ?_) (fun c_106 => ?_)
                    · have hF := q_if_f c_106 hF
                      refine lv_iconst (v := 0) hx hb dL_law_935 (by decide) ?_
                      exact absurd hF (by decide)
                    · have hF := q_if_t (by first | exact c_106 | exact Classical.not_not.mp c_106) hF
                      refine lv_aload_n hx hb dL_law_805 rfl (lv_at hl 4 rfl) ?_
                      refine lv_iload hx hb dL_law_806 (lv_at hl 9 rfl) ?_
                      refine lv_iconst (v := 0) hx hb dL_law_808 (by decide) ?_
                      obtain ⟨⟨r_107, σN_108, σD_109⟩, h_110, hF⟩ := q_cl_s hF
                      try dsimp only at hF
                      refine gcV_i (As := [.int v10, .int 0]) (rest := []) (ci := 6) (q := (RX6, TX6, 8)) F hK hN hP hD hS hA (m_X6_behind l g H.size qX AX σN_32 AP σP_27 AD σD_33 AC σC v10 (0 : Int32) r_107 σN_108 σD_109 h_110) gL_law_X6_behind kX6_behind rfl rfl rfl rfl ⟨(Nat.le_of_ble_eq_true rfl), (Nat.le_of_ble_eq_true rfl)⟩ [0, 19, 17, 18, 9, 10, 11, 12, 13, 14, 15, 16, 1, 2, 3, 4, 5, 6, 7, 8] [20, 21, 22, 23, 24, 25, 26, 27, 28, 29, 30, 31] rfl rfl rfl (by decide) rfl rfl rfl rfl rfl hl.1 (Nat.le_of_ble_eq_true rfl) dL_law_809 ⟨(Nat.le_of_ble_eq_true rfl), (Nat.le_of_ble_eq_true rfl)⟩ (fun r_w u_w H locs hw hP hD hS => ?_)
                      have hP : va_P g.1 vwCl (wX6 qX AX ++ wX1 g (AX 0) AC σC ++ wX1 g (AX 1) AD σD_109 ++ wX3 g (AX 3) AP σP_27 ++ wX2 (AX 4) σN_108 ++ wX5 g (AX 5) AW (.ref qH) σW_1 ++ wX4 g (AX 6) AY σY ++ wX0 g (AX 7) AK σK ℓK ++ wH g qH σH_1) H := hP.sub [12, 24, 25, 26, 27, 28, 29, 30, 31, 16, 17, 18, 19, 20, 21, 22, 23, 14, 15, 13, 0, 1, 2, 3, 4, 5, 6, 7, 8, 9, 10, 11] rfl
                      have hD : va_D Z (wX6 qX AX ++ wX1 g (AX 0) AC σC ++ wX1 g (AX 1) AD σD_109 ++ wX3 g (AX 3) AP σP_27 ++ wX2 (AX 4) σN_108 ++ wX5 g (AX 5) AW (.ref qH) σW_1 ++ wX4 g (AX 6) AY σY ++ wX0 g (AX 7) AK σK ℓK ++ wH g qH σH_1) := hD.sub [12, 24, 25, 26, 27, 28, 29, 30, 31, 16, 17, 18, 19, 20, 21, 22, 23, 14, 15, 13, 0, 1, 2, 3, 4, 5, 6, 7, 8, 9, 10, 11] (by decide) rfl
                      obtain rfl : r_107 = r_w := hw.symm
                      refine lv_iload hx hb dL_law_812 (lv_at hl 0 rfl) ?_
                      refine lv_if_eq (tgt := 822) hx hb dL_law_814 (by decide) (fun c_112 => ?_) (fun c_112 => ?_)
                      · refine lv_bipush (v := (-6)) hx hb dL_law_822 (by decide) ?_
                        refine lv_icmp_ne (tgt := 935) hx hb dL_law_824 (by decide) (fun c_113 => ?_) (fun c_113 => ?_)
                        · have hF := q_if_f c_113 hF
                          refine lv_iconst (v := 0) hx hb dL_law_935 (by decide) ?_
                          exact absurd hF (by decide)
                        · have hF := q_if_t (by first | exact c_113 | exact Classical.not_not.mp c_113) hF
                          refine lv_aload_n hx hb dL_law_827 rfl (lv_at hl 4 rfl) ?_
                          refine lv_iload hx hb dL_law_828 (lv_at hl 9 rfl) ?_
                          refine lv_iconst (v := 1) hx hb dL_law_830 (by decide) ?_
                          obtain ⟨⟨r_114, σN_115, σD_116⟩, h_117, hF⟩ := q_cl_s hF
                          try dsimp only at hF
                          refine gcV_i (As := [.int v10, .int 1]) (rest := []) (ci := 6) (q := (RX6, TX6, 8)) F hK hN hP hD hS hA (m_X6_behind l g H.size qX AX σN_108 AP σP_27 AD σD_109 AC σC v10 (1 : Int32) r_114 σN_115 σD_116 h_117) gL_law_X6_behind kX6_behind rfl rfl rfl rfl ⟨(Nat.le_of_ble_eq_true rfl), (Nat.le_of_ble_eq_true rfl)⟩ [0, 19, 17, 18, 9, 10, 11, 12, 13, 14, 15, 16, 1, 2, 3, 4, 5, 6, 7, 8] [20, 21, 22, 23, 24, 25, 26, 27, 28, 29, 30, 31] rfl rfl rfl (by decide) rfl rfl rfl rfl rfl hl.1 (Nat.le_of_ble_eq_true rfl) dL_law_831 ⟨(Nat.le_of_ble_eq_true rfl), (Nat.le_of_ble_eq_true rfl)⟩ (fun r_w u_w H locs hw hP hD hS => ?_)
                          have hP : va_P g.1 vwCl (wX6 qX AX ++ wX1 g (AX 0) AC σC ++ wX1 g (AX 1) AD σD_116 ++ wX3 g (AX 3) AP σP_27 ++ wX2 (AX 4) σN_115 ++ wX5 g (AX 5) AW (.ref qH) σW_1 ++ wX4 g (AX 6) AY σY ++ wX0 g (AX 7) AK σK ℓK ++ wH g qH σH_1) H := hP.sub [12, 24, 25, 26, 27, 28, 29, 30, 31, 16, 17, 18, 19, 20, 21, 22, 23, 14, 15, 13, 0, 1, 2, 3, 4, 5, 6, 7, 8, 9, 10, 11] rfl
                          have hD : va_D Z (wX6 qX AX ++ wX1 g (AX 0) AC σC ++ wX1 g (AX 1) AD σD_116 ++ wX3 g (AX 3) AP σP_27 ++ wX2 (AX 4) σN_115 ++ wX5 g (AX 5) AW (.ref qH) σW_1 ++ wX4 g (AX 6) AY σY ++ wX0 g (AX 7) AK σK ℓK ++ wH g qH σH_1) := hD.sub [12, 24, 25, 26, 27, 28, 29, 30, 31, 16, 17, 18, 19, 20, 21, 22, 23, 14, 15, 13, 0, 1, 2, 3, 4, 5, 6, 7, 8, 9, 10, 11] (by decide) rfl
                          obtain rfl : r_114 = r_w := hw.symm
                          refine lv_iload hx hb dL_law_834 (lv_at hl 0 rfl) ?_
                          refine lv_if_ne (tgt := 846) hx hb dL_law_836 (by decide) (fun c_119 => ?_) (fun c_119 => ?_)
                          · first | exact absurd c_119 (by decide) | exact c_119 (by decide)
                          · refine lv_iload hx hb dL_law_839 (lv_at hl 10 rfl) ?_
                            refine lv_bipush (v := 9) hx hb dL_law_841 (by decide) ?_
                            refine lv_icmp_ne (tgt := 851) hx hb dL_law_843 (by decide) (fun c_120 => ?_) (fun c_120 => ?_)
                            · have hF := q_if_f c_120 hF
                              refine lv_iload hx hb dL_law_851 (lv_at hl 10 rfl) ?_
                              refine lv_iconst (v := 1) hx hb dL_law_853 (by decide) ?_
                              refine lv_iadd hx hb dL_law_854 ?_
                              refine lv_icmp_ne (tgt := 935) hx hb dL_law_855 (by decide) (fun c_121 => ?_) (fun c_121 => ?_)
                              · have hF := q_if_f c_121 hF
                                refine lv_iconst (v := 0) hx hb dL_law_935 (by decide) ?_
                                exact absurd hF (by decide)
                              · have hF := q_if_t (by first | exact c_121 | exact Classical.not_not.mp c_121) hF
                                refine lv_aload_n hx hb dL_law_858 rfl (lv_at hl 4 rfl) ?_
                                refine lv_iconst (v := 1) hx hb dL_law_859 (by decide) ?_
                                obtain ⟨⟨r_122, σN_123, σD_124⟩, h_125, hF⟩ := q_cl_s hF
                                try dsimp only at hF
                                refine gcV_i (As := [.int 1]) (rest := []) (ci := 6) (q := (RX6, TX6, 8)) F hK hN hP hD hS hA (m_X6_other l g H.size qX AX σN_115 AP σP_27 AD σD_116 AC σC (1 : Int32) r_122 σN_123 σD_124 h_125) gL_law_X6_other kX6_other rfl rfl rfl rfl ⟨(Nat.le_of_ble_eq_true rfl), (Nat.le_of_ble_eq_true rfl)⟩ [0, 19, 17, 18, 9, 10, 11, 12, 13, 14, 15, 16, 1, 2, 3, 4, 5, 6, 7, 8] [20, 21, 22, 23, 24, 25, 26, 27, 28, 29, 30, 31] rfl rfl rfl (by decide) rfl rfl rfl rfl rfl hl.1 (Nat.le_of_ble_eq_true rfl) dL_law_860 ⟨(Nat.le_of_ble_eq_true rfl), (Nat.le_of_ble_eq_true rfl)⟩ (fun r_w u_w H locs hw hP hD hS => ?_)
                                have hP : va_P g.1 vwCl (wX6 qX AX ++ wX1 g (AX 0) AC σC ++ wX1 g (AX 1) AD σD_124 ++ wX3 g (AX 3) AP σP_27 ++ wX2 (AX 4) σN_123 ++ wX5 g (AX 5) AW (.ref qH) σW_1 ++ wX4 g (AX 6) AY σY ++ wX0 g (AX 7) AK σK ℓK ++ wH g qH σH_1) H := hP.sub [12, 24, 25, 26, 27, 28, 29, 30, 31, 16, 17, 18, 19, 20, 21, 22, 23, 14, 15, 13, 0, 1, 2, 3, 4, 5, 6, 7, 8, 9, 10, 11] rfl
                                have hD : va_D Z (wX6 qX AX ++ wX1 g (AX 0) AC σC ++ wX1 g (AX 1) AD σD_124 ++ wX3 g (AX 3) AP σP_27 ++ wX2 (AX 4) σN_123 ++ wX5 g (AX 5) AW (.ref qH) σW_1 ++ wX4 g (AX 6) AY σY ++ wX0 g (AX 7) AK σK ℓK ++ wH g qH σH_1) := hD.sub [12, 24, 25, 26, 27, 28, 29, 30, 31, 16, 17, 18, 19, 20, 21, 22, 23, 14, 15, 13, 0, 1, 2, 3, 4, 5, 6, 7, 8, 9, 10, 11] (by decide) rfl
                                obtain rfl : r_122 = r_w := hw.symm
                                refine lv_iload hx hb dL_law_863 (lv_at hl 0 rfl) ?_
                                refine lv_if_eq (tgt := 873) hx hb dL_law_865 (by decide) (fun c_127 => ?_) (fun c_127 => ?_)
                                · refine lv_bipush (v := (-6)) hx hb dL_law_873 (by decide) ?_
                                  refine lv_icmp_ne (tgt := 935) hx hb dL_law_875 (by decide) (fun c_128 => ?_) (fun c_128 => ?_)
                                  · have hF := q_if_f c_128 hF
                                    refine lv_iconst (v := 0) hx hb dL_law_935 (by decide) ?_
                                    exact absurd hF (by decide)
                                  · have hF := q_if_t (by first | exact c_128 | exact Classical.not_not.mp c_128) hF
                                    refine lv_aload_n hx hb dL_law_878 rfl (lv_at hl 4 rfl) ?_
                                    obtain ⟨⟨r_129, σP_130⟩, h_131, hF⟩ := q_cl_s hF
                                    try dsimp only at hF
                                    refine gcV_i (As := []) (rest := []) (ci := 6) (q := (RX6, TX6, 8)) F hK hN hP hD hS hA (m_X6_wipe l g H.size qX AX AP σP_27 r_129 σP_130 h_131) gL_law_X6_wipe kX6_wipe rfl rfl rfl rfl ⟨(Nat.le_of_ble_eq_true rfl), (Nat.le_of_ble_eq_true rfl)⟩ [0, 17, 18] [1, 2, 3, 4, 5, 6, 7, 8, 9, 10, 11, 12, 13, 14, 15, 16, 19, 20, 21, 22, 23, 24, 25, 26, 27, 28, 29, 30, 31] rfl rfl rfl (by decide) rfl rfl rfl rfl rfl hl.1 (Nat.le_of_ble_eq_true rfl) dL_law_879 ⟨(Nat.le_of_ble_eq_true rfl), (Nat.le_of_ble_eq_true rfl)⟩ (fun r_w u_w H locs hw hP hD hS => ?_)
                                    have hP : va_P g.1 vwCl (wX6 qX AX ++ wX1 g (AX 0) AC σC ++ wX1 g (AX 1) AD σD_124 ++ wX3 g (AX 3) AP σP_130 ++ wX2 (AX 4) σN_123 ++ wX5 g (AX 5) AW (.ref qH) σW_1 ++ wX4 g (AX 6) AY σY ++ wX0 g (AX 7) AK σK ℓK ++ wH g qH σH_1) H := hP.sub [29, 0, 1, 2, 3, 4, 5, 6, 7, 8, 9, 10, 11, 12, 13, 14, 15, 30, 31, 16, 17, 18, 19, 20, 21, 22, 23, 24, 25, 26, 27, 28] rfl
                                    have hD : va_D Z (wX6 qX AX ++ wX1 g (AX 0) AC σC ++ wX1 g (AX 1) AD σD_124 ++ wX3 g (AX 3) AP σP_130 ++ wX2 (AX 4) σN_123 ++ wX5 g (AX 5) AW (.ref qH) σW_1 ++ wX4 g (AX 6) AY σY ++ wX0 g (AX 7) AK σK ℓK ++ wH g qH σH_1) := hD.sub [29, 0, 1, 2, 3, 4, 5, 6, 7, 8, 9, 10, 11, 12, 13, 14, 15, 30, 31, 16, 17, 18, 19, 20, 21, 22, 23, 24, 25, 26, 27, 28] (by decide) rfl
                                    obtain rfl : r_129 = r_w := hw.symm
                                    refine lv_iconst (v := 5) hx hb dL_law_882 (by decide) ?_
                                    refine lv_icmp_ne (tgt := 935) hx hb dL_law_883 (by decide) (fun c_133 => ?_) (fun c_133 => ?_)
                                    · have hF := q_if_f c_133 hF
                                      refine lv_iconst (v := 0) hx hb dL_law_935 (by decide) ?_
                                      exact absurd hF (by decide)
                                    · have hF := q_if_t (by first | exact c_133 | exact Classical.not_not.mp c_133) hF
                                      refine lv_aload_n hx hb dL_law_886 rfl (lv_at hl 4 rfl) ?_
                                      refine lv_bipush (v := 10) hx hb dL_law_887 (by decide) ?_
                                      refine lv_iload hx hb dL_law_889 (lv_at hl 2 rfl) ?_
                                      refine lv_imul hx hb dL_law_891 ?_
                                      refine lv_iconst (v := 0) hx hb dL_law_892 (by decide) ?_
                                      obtain ⟨⟨r_134, σW_135, σH_136⟩, h_137, hF⟩ := q_cl_s hF
                                      try dsimp only at hF
                                      refine gcV_i (As := [.int ((10 : Int32) * v13_1), .int 0]) (rest := []) (ci := 6) (q := (RX6, TX6, 8)) F hK hN hP hD hS hA (m_X6_round l g H.size qX AX AW σW_1 qH σH_1 AC σC ((10 : Int32) * v13_1) (0 : Int32) r_134 σW_135 σH_136 h_137) gL_law_X6_round kX6_round rfl rfl rfl rfl ⟨(Nat.le_of_ble_eq_true rfl), (Nat.le_of_ble_eq_true rfl)⟩ [0, 20, 21, 22, 31, 1, 2, 3, 4, 5, 6, 7, 8] [9, 10, 11, 12, 13, 14, 15, 16, 17, 18, 19, 23, 24, 25, 26, 27, 28, 29, 30] rfl rfl rfl (by decide) rfl rfl rfl rfl rfl hl.1 (Nat.le_of_ble_eq_true rfl) dL_law_893 ⟨(Nat.le_of_ble_eq_true rfl), (Nat.le_of_ble_eq_true rfl)⟩ (fun r_w u_w H locs hw hP hD hS => ?_)
                                      have hP : va_P g.1 vwCl (wX6 qX AX ++ wX1 g (AX 0) AC σC ++ wX1 g (AX 1) AD σD_124 ++ wX3 g (AX 3) AP σP_130 ++ wX2 (AX 4) σN_123 ++ wX5 g (AX 5) AW (.ref qH) σW_135 ++ wX4 g (AX 6) AY σY ++ wX0 g (AX 7) AK σK ℓK ++ wH g qH σH_136) H := hP.sub [19, 24, 25, 26, 27, 28, 29, 30, 31, 0, 1, 2, 3, 4, 5, 6, 7, 8, 9, 10, 20, 21, 22, 11, 12, 13, 14, 15, 16, 17, 18, 23] rfl
                                      have hD : va_D Z (wX6 qX AX ++ wX1 g (AX 0) AC σC ++ wX1 g (AX 1) AD σD_124 ++ wX3 g (AX 3) AP σP_130 ++ wX2 (AX 4) σN_123 ++ wX5 g (AX 5) AW (.ref qH) σW_135 ++ wX4 g (AX 6) AY σY ++ wX0 g (AX 7) AK σK ℓK ++ wH g qH σH_136) := hD.sub [19, 24, 25, 26, 27, 28, 29, 30, 31, 0, 1, 2, 3, 4, 5, 6, 7, 8, 9, 10, 20, 21, 22, 11, 12, 13, 14, 15, 16, 17, 18, 23] (by decide) rfl
                                      obtain rfl : r_134 = r_w := hw.symm
                                      refine lv_iload hx hb dL_law_896 (lv_at hl 0 rfl) ?_
                                      refine lv_if_eq (tgt := 905) hx hb dL_law_898 (by decide) (fun c_139 => ?_) (fun c_139 => ?_)
                                      · refine lv_iconst (v := 0) hx hb dL_law_905 (by decide) ?_
                                        refine lv_icmp_ne (tgt := 935) hx hb dL_law_906 (by decide) (fun c_140 => ?_) (fun c_140 => ?_)
                                        · have hF := q_if_f c_140 hF
                                          refine lv_iconst (v := 0) hx hb dL_law_935 (by decide) ?_
                                          exact absurd hF (by decide)
                                        · have hF := q_if_t (by first | exact c_140 | exact Classical.not_not.mp c_140) hF
                                          refine lv_aload_n hx hb dL_law_909 rfl (lv_at hl 4 rfl) ?_
                                          refine lv_bipush (v := 10) hx hb dL_law_910 (by decide) ?_
                                          refine lv_iload hx hb dL_law_912 (lv_at hl 2 rfl) ?_
                                          refine lv_imul hx hb dL_law_914 ?_
                                          refine lv_iconst (v := 1) hx hb dL_law_915 (by decide) ?_
                                          obtain ⟨⟨r_141, σW_142, σH_143⟩, h_144, hF⟩ := q_cl_s hF
                                          try dsimp only at hF
                                          refine gcV_i (As := [.int ((10 : Int32) * v13_1), .int 1]) (rest := []) (ci := 6) (q := (RX6, TX6, 8)) F hK hN hP hD hS hA (m_X6_round l g H.size qX AX AW σW_135 qH σH_136 AC σC ((10 : Int32) * v13_1) (1 : Int32) r_141 σW_142 σH_143 h_144) gL_law_X6_round kX6_round rfl rfl rfl rfl ⟨(Nat.le_of_ble_eq_true rfl), (Nat.le_of_ble_eq_true rfl)⟩ [0, 20, 21, 22, 31, 1, 2, 3, 4, 5, 6, 7, 8] [9, 10, 11, 12, 13, 14, 15, 16, 17, 18, 19, 23, 24, 25, 26, 27, 28, 29, 30] rfl rfl rfl (by decide) rfl rfl rfl rfl rfl hl.1 (Nat.le_of_ble_eq_true rfl) dL_law_916 ⟨(Nat.le_of_ble_eq_true rfl), (Nat.le_of_ble_eq_true rfl)⟩ (fun r_w u_w H locs hw hP hD hS => ?_)
                                          have hP : va_P g.1 vwCl (wX6 qX AX ++ wX1 g (AX 0) AC σC ++ wX1 g (AX 1) AD σD_124 ++ wX3 g (AX 3) AP σP_130 ++ wX2 (AX 4) σN_123 ++ wX5 g (AX 5) AW (.ref qH) σW_142 ++ wX4 g (AX 6) AY σY ++ wX0 g (AX 7) AK σK ℓK ++ wH g qH σH_143) H := hP.sub [19, 24, 25, 26, 27, 28, 29, 30, 31, 0, 1, 2, 3, 4, 5, 6, 7, 8, 9, 10, 20, 21, 22, 11, 12, 13, 14, 15, 16, 17, 18, 23] rfl
                                          have hD : va_D Z (wX6 qX AX ++ wX1 g (AX 0) AC σC ++ wX1 g (AX 1) AD σD_124 ++ wX3 g (AX 3) AP σP_130 ++ wX2 (AX 4) σN_123 ++ wX5 g (AX 5) AW (.ref qH) σW_142 ++ wX4 g (AX 6) AY σY ++ wX0 g (AX 7) AK σK ℓK ++ wH g qH σH_143) := hD.sub [19, 24, 25, 26, 27, 28, 29, 30, 31, 0, 1, 2, 3, 4, 5, 6, 7, 8, 9, 10, 20, 21, 22, 11, 12, 13, 14, 15, 16, 17, 18, 23] (by decide) rfl
                                          obtain rfl : r_141 = r_w := hw.symm
                                          refine lv_iload hx hb dL_law_919 (lv_at hl 0 rfl) ?_
                                          refine lv_if_eq (tgt := 931) hx hb dL_law_921 (by decide) (fun c_146 => ?_) (fun c_146 => ?_)
                                          · refine lv_iconst (v := 0) hx hb dL_law_931 (by decide) ?_
                                            refine lv_icmp_eq (tgt := 937) hx hb dL_law_932 (by decide) (fun c_147 => ?_) (fun c_147 => ?_)
                                            · have hF := q_if_t c_147 hF
                                              refine lv_iinc (v := v13_1 + 1) (lv' := [(13, .int (v13_1 + 1)), (15, .int 0), (14, .int v14_3), (0, .ref b), (1, .ref qX), (2, .int v2), (4, .int v4), (7, .int v7), (9, .int v9), (10, .int v10), (11, .int v11), (12, .int v12)]) hx hb dL_law_937 hl (k := 2) rfl rfl (by decide) rfl (fun ls hl => ?_)
                                              refine lv_goto (tgt := 690) hx hb dL_law_940 (by decide) ?_
                                              exact ag (v13_1 + 1, σD_124, σP_130, σN_123, σW_142, σH_143) hF _ _ _ hP hD hS (lv_sub hl [0, 3, 4, 5, 6, 7, 8, 9, 10, 11] rfl)
                                            · have hF := q_if_f c_147 hF
                                              refine lv_iconst (v := 0) hx hb dL_law_935 (by decide) ?_
                                              exact absurd hF (by decide)
                                          · first | exact absurd c_146 (by decide) | exact c_146 (by decide)
                                      · first | exact absurd c_139 (by decide) | exact c_139 (by decide)
                                · first | exact absurd c_127 (by decide) | exact c_127 (by decide)
                            · have hF := q_if_t (by first | exact c_120 | exact Classical.not_not.mp c_120) hF
                              refine lv_iload hx hb dL_law_846 (lv_at hl 10 rfl) ?_
                              refine lv_goto (tgt := 855) hx hb dL_law_848 (by decide) ?_
                              refine lv_icmp_ne (tgt := 935) hx hb dL_law_855 (by decide) (fun c_148 => ?_) (fun c_148 => ?_)
                              · have hF := q_if_f c_148 hF
                                refine lv_iconst (v := 0) hx hb dL_law_935 (by decide) ?_
                                exact absurd hF (by decide)
                              · have hF := q_if_t (by first | exact c_148 | exact Classical.not_not.mp c_148) hF
                                refine lv_aload_n hx hb dL_law_858 rfl (lv_at hl 4 rfl) ?_
                                refine lv_iconst (v := 1) hx hb dL_law_859 (by decide) ?_
                                obtain ⟨⟨r_149, σN_150, σD_151⟩, h_152, hF⟩ := q_cl_s hF
                                try dsimp only at hF
                                refine gcV_i (As := [.int 1]) (rest := []) (ci := 6) (q := (RX6, TX6, 8)) F hK hN hP hD hS hA (m_X6_other l g H.size qX AX σN_115 AP σP_27 AD σD_116 AC σC (1 : Int32) r_149 σN_150 σD_151 h_152) gL_law_X6_other kX6_other rfl rfl rfl rfl ⟨(Nat.le_of_ble_eq_true rfl), (Nat.le_of_ble_eq_true rfl)⟩ [0, 19, 17, 18, 9, 10, 11, 12, 13, 14, 15, 16, 1, 2, 3, 4, 5, 6, 7, 8] [20, 21, 22, 23, 24, 25, 26, 27, 28, 29, 30, 31] rfl rfl rfl (by decide) rfl rfl rfl rfl rfl hl.1 (Nat.le_of_ble_eq_true rfl) dL_law_860 ⟨(Nat.le_of_ble_eq_true rfl), (Nat.le_of_ble_eq_true rfl)⟩ (fun r_w u_w H locs hw hP hD hS => ?_)
                                have hP : va_P g.1 vwCl (wX6 qX AX ++ wX1 g (AX 0) AC σC ++ wX1 g (AX 1) AD σD_151 ++ wX3 g (AX 3) AP σP_27 ++ wX2 (AX 4) σN_150 ++ wX5 g (AX 5) AW (.ref qH) σW_1 ++ wX4 g (AX 6) AY σY ++ wX0 g (AX 7) AK σK ℓK ++ wH g qH σH_1) H := hP.sub [12, 24, 25, 26, 27, 28, 29, 30, 31, 16, 17, 18, 19, 20, 21, 22, 23, 14, 15, 13, 0, 1, 2, 3, 4, 5, 6, 7, 8, 9, 10, 11] rfl
                                have hD : va_D Z (wX6 qX AX ++ wX1 g (AX 0) AC σC ++ wX1 g (AX 1) AD σD_151 ++ wX3 g (AX 3) AP σP_27 ++ wX2 (AX 4) σN_150 ++ wX5 g (AX 5) AW (.ref qH) σW_1 ++ wX4 g (AX 6) AY σY ++ wX0 g (AX 7) AK σK ℓK ++ wH g qH σH_1) := hD.sub [12, 24, 25, 26, 27, 28, 29, 30, 31, 16, 17, 18, 19, 20, 21, 22, 23, 14, 15, 13, 0, 1, 2, 3, 4, 5, 6, 7, 8, 9, 10, 11] (by decide) rfl
                                obtain rfl : r_149 = r_w := hw.symm
                                refine lv_iload hx hb dL_law_863 (lv_at hl 0 rfl) ?_
                                refine lv_if_eq (tgt := 873) hx hb dL_law_865 (by decide) (fun c_154 => ?_) (fun c_154 => ?_)
                                · refine lv_bipush (v := (-6)) hx hb dL_law_873 (by decide) ?_
                                  refine lv_icmp_ne (tgt := 935) hx hb dL_law_875 (by decide) (fun c_155 => ?_) (fun c_155 => ?_)
                                  · have hF := q_if_f c_155 hF
                                    refine lv_iconst (v := 0) hx hb dL_law_935 (by decide) ?_
                                    exact absurd hF (by decide)
                                  · have hF := q_if_t (by first | exact c_155 | exact Classical.not_not.mp c_155) hF
                                    refine lv_aload_n hx hb dL_law_878 rfl (lv_at hl 4 rfl) ?_
                                    obtain ⟨⟨r_156, σP_157⟩, h_158, hF⟩ := q_cl_s hF
                                    try dsimp only at hF
                                    refine gcV_i (As := []) (rest := []) (ci := 6) (q := (RX6, TX6, 8)) F hK hN hP hD hS hA (m_X6_wipe l g H.size qX AX AP σP_27 r_156 σP_157 h_158) gL_law_X6_wipe kX6_wipe rfl rfl rfl rfl ⟨(Nat.le_of_ble_eq_true rfl), (Nat.le_of_ble_eq_true rfl)⟩ [0, 17, 18] [1, 2, 3, 4, 5, 6, 7, 8, 9, 10, 11, 12, 13, 14, 15, 16, 19, 20, 21, 22, 23, 24, 25, 26, 27, 28, 29, 30, 31] rfl rfl rfl (by decide) rfl rfl rfl rfl rfl hl.1 (Nat.le_of_ble_eq_true rfl) dL_law_879 ⟨(Nat.le_of_ble_eq_true rfl), (Nat.le_of_ble_eq_true rfl)⟩ (fun r_w u_w H locs hw hP hD hS => ?_)
                                    have hP : va_P g.1 vwCl (wX6 qX AX ++ wX1 g (AX 0) AC σC ++ wX1 g (AX 1) AD σD_151 ++ wX3 g (AX 3) AP σP_157 ++ wX2 (AX 4) σN_150 ++ wX5 g (AX 5) AW (.ref qH) σW_1 ++ wX4 g (AX 6) AY σY ++ wX0 g (AX 7) AK σK ℓK ++ wH g qH σH_1) H := hP.sub [29, 0, 1, 2, 3, 4, 5, 6, 7, 8, 9, 10, 11, 12, 13, 14, 15, 30, 31, 16, 17, 18, 19, 20, 21, 22, 23, 24, 25, 26, 27, 28] rfl
                                    have hD : va_D Z (wX6 qX AX ++ wX1 g (AX 0) AC σC ++ wX1 g (AX 1) AD σD_151 ++ wX3 g (AX 3) AP σP_157 ++ wX2 (AX 4) σN_150 ++ wX5 g (AX 5) AW (.ref qH) σW_1 ++ wX4 g (AX 6) AY σY ++ wX0 g (AX 7) AK σK ℓK ++ wH g qH σH_1) := hD.sub [29, 0, 1, 2, 3, 4, 5, 6, 7, 8, 9, 10, 11, 12, 13, 14, 15, 30, 31, 16, 17, 18, 19, 20, 21, 22, 23, 24, 25, 26, 27, 28] (by decide) rfl
                                    obtain rfl : r_156 = r_w := hw.symm
                                    refine lv_iconst (v := 5) hx hb dL_law_882 (by decide) ?_
                                    refine lv_icmp_ne (tgt := 935) hx hb dL_law_883 (by decide) (fun c_160 => ?_) (fun c_160 => ?_)
                                    · have hF := q_if_f c_160 hF
                                      refine lv_iconst (v := 0) hx hb dL_law_935 (by decide) ?_
                                      exact absurd hF (by decide)
                                    · have hF := q_if_t (by first | exact c_160 | exact Classical.not_not.mp c_160) hF
                                      refine lv_aload_n hx hb dL_law_886 rfl (lv_at hl 4 rfl) ?_
                                      refine lv_bipush (v := 10) hx hb dL_law_887 (by decide) ?_
                                      refine lv_iload hx hb dL_law_889 (lv_at hl 2 rfl) ?_
                                      refine lv_imul hx hb dL_law_891 ?_
                                      refine lv_iconst (v := 0) hx hb dL_law_892 (by decide) ?_
                                      obtain ⟨⟨r_161, σW_162, σH_163⟩, h_164, hF⟩ := q_cl_s hF
                                      try dsimp only at hF
                                      refine gcV_i (As := [.int ((10 : Int32) * v13_1), .int 0]) (rest := []) (ci := 6) (q := (RX6, TX6, 8)) F hK hN hP hD hS hA (m_X6_round l g H.size qX AX AW σW_1 qH σH_1 AC σC ((10 : Int32) * v13_1) (0 : Int32) r_161 σW_162 σH_163 h_164) gL_law_X6_round kX6_round rfl rfl rfl rfl ⟨(Nat.le_of_ble_eq_true rfl), (Nat.le_of_ble_eq_true rfl)⟩ [0, 20, 21, 22, 31, 1, 2, 3, 4, 5, 6, 7, 8] [9, 10, 11, 12, 13, 14, 15, 16, 17, 18, 19, 23, 24, 25, 26, 27, 28, 29, 30] rfl rfl rfl (by decide) rfl rfl rfl rfl rfl hl.1 (Nat.le_of_ble_eq_true rfl) dL_law_893 ⟨(Nat.le_of_ble_eq_true rfl), (Nat.le_of_ble_eq_true rfl)⟩ (fun r_w u_w H locs hw hP hD hS => ?_)
                                      have hP : va_P g.1 vwCl (wX6 qX AX ++ wX1 g (AX 0) AC σC ++ wX1 g (AX 1) AD σD_151 ++ wX3 g (AX 3) AP σP_157 ++ wX2 (AX 4) σN_150 ++ wX5 g (AX 5) AW (.ref qH) σW_162 ++ wX4 g (AX 6) AY σY ++ wX0 g (AX 7) AK σK ℓK ++ wH g qH σH_163) H := hP.sub [19, 24, 25, 26, 27, 28, 29, 30, 31, 0, 1, 2, 3, 4, 5, 6, 7, 8, 9, 10, 20, 21, 22, 11, 12, 13, 14, 15, 16, 17, 18, 23] rfl
                                      have hD : va_D Z (wX6 qX AX ++ wX1 g (AX 0) AC σC ++ wX1 g (AX 1) AD σD_151 ++ wX3 g (AX 3) AP σP_157 ++ wX2 (AX 4) σN_150 ++ wX5 g (AX 5) AW (.ref qH) σW_162 ++ wX4 g (AX 6) AY σY ++ wX0 g (AX 7) AK σK ℓK ++ wH g qH σH_163) := hD.sub [19, 24, 25, 26, 27, 28, 29, 30, 31, 0, 1, 2, 3, 4, 5, 6, 7, 8, 9, 10, 20, 21, 22, 11, 12, 13, 14, 15, 16, 17, 18, 23] (by decide) rfl
                                      obtain rfl : r_161 = r_w := hw.symm
                                      refine lv_iload hx hb dL_law_896 (lv_at hl 0 rfl) ?_
                                      refine lv_if_eq (tgt := 905) hx hb dL_law_898 (by decide) (fun c_166 => ?_) (fun c_166 => ?_)
                                      · refine lv_iconst (v := 0) hx hb dL_law_905 (by decide) ?_
                                        refine lv_icmp_ne (tgt := 935) hx hb dL_law_906 (by decide) (fun c_167 => ?_) (fun c_167 => ?_)
                                        · have hF := q_if_f c_167 hF
                                          refine lv_iconst (v := 0) hx hb dL_law_935 (by decide) ?_
                                          exact absurd hF (by decide)
                                        · have hF := q_if_t (by first | exact c_167 | exact Classical.not_not.mp c_167) hF
                                          refine lv_aload_n hx hb dL_law_909 rfl (lv_at hl 4 rfl) ?_
                                          refine lv_bipush (v := 10) hx hb dL_law_910 (by decide) ?_
                                          refine lv_iload hx hb dL_law_912 (lv_at hl 2 rfl) ?_
                                          refine lv_imul hx hb dL_law_914 ?_
                                          refine lv_iconst (v := 1) hx hb dL_law_915 (by decide) ?_
                                          obtain ⟨⟨r_168, σW_169, σH_170⟩, h_171, hF⟩ := q_cl_s hF
                                          try dsimp only at hF
                                          refine gcV_i (As := [.int ((10 : Int32) * v13_1), .int 1]) (rest := []) (ci := 6) (q := (RX6, TX6, 8)) F hK hN hP hD hS hA (m_X6_round l g H.size qX AX AW σW_162 qH σH_163 AC σC ((10 : Int32) * v13_1) (1 : Int32) r_168 σW_169 σH_170 h_171) gL_law_X6_round kX6_round rfl rfl rfl rfl ⟨(Nat.le_of_ble_eq_true rfl), (Nat.le_of_ble_eq_true rfl)⟩ [0, 20, 21, 22, 31, 1, 2, 3, 4, 5, 6, 7, 8] [9, 10, 11, 12, 13, 14, 15, 16, 17, 18, 19, 23, 24, 25, 26, 27, 28, 29, 30] rfl rfl rfl (by decide) rfl rfl rfl rfl rfl hl.1 (Nat.le_of_ble_eq_true rfl) dL_law_916 ⟨(Nat.le_of_ble_eq_true rfl), (Nat.le_of_ble_eq_true rfl)⟩ (fun r_w u_w H locs hw hP hD hS => ?_)
                                          have hP : va_P g.1 vwCl (wX6 qX AX ++ wX1 g (AX 0) AC σC ++ wX1 g (AX 1) AD σD_151 ++ wX3 g (AX 3) AP σP_157 ++ wX2 (AX 4) σN_150 ++ wX5 g (AX 5) AW (.ref qH) σW_169 ++ wX4 g (AX 6) AY σY ++ wX0 g (AX 7) AK σK ℓK ++ wH g qH σH_170) H := hP.sub [19, 24, 25, 26, 27, 28, 29, 30, 31, 0, 1, 2, 3, 4, 5, 6, 7, 8, 9, 10, 20, 21, 22, 11, 12, 13, 14, 15, 16, 17, 18, 23] rfl
                                          have hD : va_D Z (wX6 qX AX ++ wX1 g (AX 0) AC σC ++ wX1 g (AX 1) AD σD_151 ++ wX3 g (AX 3) AP σP_157 ++ wX2 (AX 4) σN_150 ++ wX5 g (AX 5) AW (.ref qH) σW_169 ++ wX4 g (AX 6) AY σY ++ wX0 g (AX 7) AK σK ℓK ++ wH g qH σH_170) := hD.sub [19, 24, 25, 26, 27, 28, 29, 30, 31, 0, 1, 2, 3, 4, 5, 6, 7, 8, 9, 10, 20, 21, 22, 11, 12, 13, 14, 15, 16, 17, 18, 23] (by decide) rfl
                                          obtain rfl : r_168 = r_w := hw.symm
                                          refine lv_iload hx hb dL_law_919 (lv_at hl 0 rfl) ?_
                                          refine lv_if_eq (tgt := 931) hx hb dL_law_921 (by decide) (fun c_173 => ?_) (fun c_173 => ?_)
                                          · refine lv_iconst (v := 0) hx hb dL_law_931 (by decide) ?_
                                            refine lv_icmp_eq (tgt := 937) hx hb dL_law_932 (by decide) (fun c_174 => ?_) (fun c_174 => ?_)
                                            · have hF := q_if_t c_174 hF
                                              refine lv_iinc (v := v13_1 + 1) (lv' := [(13, .int (v13_1 + 1)), (15, .int 0), (14, .int v14_3), (0, .ref b), (1, .ref qX), (2, .int v2), (4, .int v4), (7, .int v7), (9, .int v9), (10, .int v10), (11, .int v11), (12, .int v12)]) hx hb dL_law_937 hl (k := 2) rfl rfl (by decide) rfl (fun ls hl => ?_)
                                              refine lv_goto (tgt := 690) hx hb dL_law_940 (by decide) ?_
                                              exact ag (v13_1 + 1, σD_151, σP_157, σN_150, σW_169, σH_170) hF _ _ _ hP hD hS (lv_sub hl [0, 3, 4, 5, 6, 7, 8, 9, 10, 11] rfl)
                                            · have hF := q_if_f c_174 hF
                                              refine lv_iconst (v := 0) hx hb dL_law_935 (by decide) ?_
                                              exact absurd hF (by decide)
                                          · first | exact absurd c_173 (by decide) | exact c_173 (by decide)
                                      · first | exact absurd c_166 (by decide) | exact c_166 (by decide)
                                · first | exact absurd c_154 (by decide) | exact c_154 (by decide)
                      · first | exact absurd c_112 (by decide) | exact c_112 (by decide)
      · have hF := q_if_f c_5 hF
        refine lv_iconst (v := 1) hx hb dL_law_717 (by decide) ?_
        refine lv_goto (tgt := 722) hx hb dL_law_718 (by decide) ?_
        refine lv_istore (lv' := [(15, .int 1), (14, .int v14_3), (13, .int v13_1), (0, .ref b), (1, .ref qX), (2, .int v2), (4, .int v4), (7, .int v7), (9, .int v9), (10, .int v10), (11, .int v11), (12, .int v12)]) hx hb dL_law_722 hl (by decide) rfl (fun ls hl => ?_)
        refine lv_aload_n hx hb dL_law_724 rfl (lv_at hl 4 rfl) ?_
        refine lv_bipush (v := 61) hx hb dL_law_725 (by decide) ?_
        obtain ⟨⟨r_175, σP_176⟩, h_177, hF⟩ := q_cl_s hF
        try dsimp only at hF
        refine gcV_i (As := [.int 61]) (rest := []) (ci := 6) (q := (RX6, TX6, 8)) F hK hN hP hD hS hA (m_X6_say l g H.size qX AX AP σP_1 (61 : Int32) r_175 σP_176 h_177) gL_law_X6_say kX6_say rfl rfl rfl rfl ⟨(Nat.le_of_ble_eq_true rfl), (Nat.le_of_ble_eq_true rfl)⟩ [0, 17, 18] [1, 2, 3, 4, 5, 6, 7, 8, 9, 10, 11, 12, 13, 14, 15, 16, 19, 20, 21, 22, 23, 24, 25, 26, 27, 28, 29, 30, 31] rfl rfl rfl (by decide) rfl rfl rfl rfl rfl hl.1 (Nat.le_of_ble_eq_true rfl) dL_law_727 ⟨(Nat.le_of_ble_eq_true rfl), (Nat.le_of_ble_eq_true rfl)⟩ (fun r_w u_w H locs hw hP hD hS => ?_)
        have hP : va_P g.1 vwCl (wX6 qX AX ++ wX1 g (AX 0) AC σC ++ wX1 g (AX 1) AD σD_1 ++ wX3 g (AX 3) AP σP_176 ++ wX2 (AX 4) σN_1 ++ wX5 g (AX 5) AW (.ref qH) σW_1 ++ wX4 g (AX 6) AY σY ++ wX0 g (AX 7) AK σK ℓK ++ wH g qH σH_1) H := hP.sub [29, 0, 1, 2, 3, 4, 5, 6, 7, 8, 9, 10, 11, 12, 13, 14, 15, 30, 31, 16, 17, 18, 19, 20, 21, 22, 23, 24, 25, 26, 27, 28] rfl
        have hD : va_D Z (wX6 qX AX ++ wX1 g (AX 0) AC σC ++ wX1 g (AX 1) AD σD_1 ++ wX3 g (AX 3) AP σP_176 ++ wX2 (AX 4) σN_1 ++ wX5 g (AX 5) AW (.ref qH) σW_1 ++ wX4 g (AX 6) AY σY ++ wX0 g (AX 7) AK σK ℓK ++ wH g qH σH_1) := hD.sub [29, 0, 1, 2, 3, 4, 5, 6, 7, 8, 9, 10, 11, 12, 13, 14, 15, 30, 31, 16, 17, 18, 19, 20, 21, 22, 23, 24, 25, 26, 27, 28] (by decide) rfl
        obtain rfl : r_175 = r_w := hw.symm
        refine lv_iconst (v := 1) hx hb dL_law_730 (by decide) ?_
        refine lv_icmp_ne (tgt := 935) hx hb dL_law_731 (by decide) (fun c_179 => ?_) (fun c_179 => ?_)
        · have hF := q_if_f c_179 hF
          refine lv_iconst (v := 0) hx hb dL_law_935 (by decide) ?_
          exact absurd hF (by decide)
        · have hF := q_if_t (by first | exact c_179 | exact Classical.not_not.mp c_179) hF
          refine lv_aload_n hx hb dL_law_734 rfl (lv_at hl 4 rfl) ?_
          refine lv_bipush (v := 48) hx hb dL_law_735 (by decide) ?_
          refine lv_iload hx hb dL_law_737 (lv_at hl 11 rfl) ?_
          refine lv_iadd hx hb dL_law_739 ?_
          obtain ⟨⟨r_180, σP_181⟩, h_182, hF⟩ := q_cl_s hF
          try dsimp only at hF
          refine gcV_i (As := [.int ((48 : Int32) + v12)]) (rest := []) (ci := 6) (q := (RX6, TX6, 8)) F hK hN hP hD hS hA (m_X6_say l g H.size qX AX AP σP_176 ((48 : Int32) + v12) r_180 σP_181 h_182) gL_law_X6_say kX6_say rfl rfl rfl rfl ⟨(Nat.le_of_ble_eq_true rfl), (Nat.le_of_ble_eq_true rfl)⟩ [0, 17, 18] [1, 2, 3, 4, 5, 6, 7, 8, 9, 10, 11, 12, 13, 14, 15, 16, 19, 20, 21, 22, 23, 24, 25, 26, 27, 28, 29, 30, 31] rfl rfl rfl (by decide) rfl rfl rfl rfl rfl hl.1 (Nat.le_of_ble_eq_true rfl) dL_law_740 ⟨(Nat.le_of_ble_eq_true rfl), (Nat.le_of_ble_eq_true rfl)⟩ (fun r_w u_w H locs hw hP hD hS => ?_)
          have hP : va_P g.1 vwCl (wX6 qX AX ++ wX1 g (AX 0) AC σC ++ wX1 g (AX 1) AD σD_1 ++ wX3 g (AX 3) AP σP_181 ++ wX2 (AX 4) σN_1 ++ wX5 g (AX 5) AW (.ref qH) σW_1 ++ wX4 g (AX 6) AY σY ++ wX0 g (AX 7) AK σK ℓK ++ wH g qH σH_1) H := hP.sub [29, 0, 1, 2, 3, 4, 5, 6, 7, 8, 9, 10, 11, 12, 13, 14, 15, 30, 31, 16, 17, 18, 19, 20, 21, 22, 23, 24, 25, 26, 27, 28] rfl
          have hD : va_D Z (wX6 qX AX ++ wX1 g (AX 0) AC σC ++ wX1 g (AX 1) AD σD_1 ++ wX3 g (AX 3) AP σP_181 ++ wX2 (AX 4) σN_1 ++ wX5 g (AX 5) AW (.ref qH) σW_1 ++ wX4 g (AX 6) AY σY ++ wX0 g (AX 7) AK σK ℓK ++ wH g qH σH_1) := hD.sub [29, 0, 1, 2, 3, 4, 5, 6, 7, 8, 9, 10, 11, 12, 13, 14, 15, 30, 31, 16, 17, 18, 19, 20, 21, 22, 23, 24, 25, 26, 27, 28] (by decide) rfl
          obtain rfl : r_180 = r_w := hw.symm
          refine lv_iconst (v := 2) hx hb dL_law_743 (by decide) ?_
          refine lv_icmp_ne (tgt := 935) hx hb dL_law_744 (by decide) (fun c_184 => ?_) (fun c_184 => ?_)
          · have hF := q_if_f c_184 hF
            refine lv_iconst (v := 0) hx hb dL_law_935 (by decide) ?_
            exact absurd hF (by decide)
          · have hF := q_if_t (by first | exact c_184 | exact Classical.not_not.mp c_184) hF
            refine lv_aload_n hx hb dL_law_747 rfl (lv_at hl 4 rfl) ?_
            refine lv_bipush (v := 48) hx hb dL_law_748 (by decide) ?_
            refine lv_iload hx hb dL_law_750 (lv_at hl 2 rfl) ?_
            refine lv_iadd hx hb dL_law_752 ?_
            obtain ⟨⟨r_185, σP_186⟩, h_187, hF⟩ := q_cl_s hF
            try dsimp only at hF
            refine gcV_i (As := [.int ((48 : Int32) + v13_1)]) (rest := []) (ci := 6) (q := (RX6, TX6, 8)) F hK hN hP hD hS hA (m_X6_say l g H.size qX AX AP σP_181 ((48 : Int32) + v13_1) r_185 σP_186 h_187) gL_law_X6_say kX6_say rfl rfl rfl rfl ⟨(Nat.le_of_ble_eq_true rfl), (Nat.le_of_ble_eq_true rfl)⟩ [0, 17, 18] [1, 2, 3, 4, 5, 6, 7, 8, 9, 10, 11, 12, 13, 14, 15, 16, 19, 20, 21, 22, 23, 24, 25, 26, 27, 28, 29, 30, 31] rfl rfl rfl (by decide) rfl rfl rfl rfl rfl hl.1 (Nat.le_of_ble_eq_true rfl) dL_law_753 ⟨(Nat.le_of_ble_eq_true rfl), (Nat.le_of_ble_eq_true rfl)⟩ (fun r_w u_w H locs hw hP hD hS => ?_)
            have hP : va_P g.1 vwCl (wX6 qX AX ++ wX1 g (AX 0) AC σC ++ wX1 g (AX 1) AD σD_1 ++ wX3 g (AX 3) AP σP_186 ++ wX2 (AX 4) σN_1 ++ wX5 g (AX 5) AW (.ref qH) σW_1 ++ wX4 g (AX 6) AY σY ++ wX0 g (AX 7) AK σK ℓK ++ wH g qH σH_1) H := hP.sub [29, 0, 1, 2, 3, 4, 5, 6, 7, 8, 9, 10, 11, 12, 13, 14, 15, 30, 31, 16, 17, 18, 19, 20, 21, 22, 23, 24, 25, 26, 27, 28] rfl
            have hD : va_D Z (wX6 qX AX ++ wX1 g (AX 0) AC σC ++ wX1 g (AX 1) AD σD_1 ++ wX3 g (AX 3) AP σP_186 ++ wX2 (AX 4) σN_1 ++ wX5 g (AX 5) AW (.ref qH) σW_1 ++ wX4 g (AX 6) AY σY ++ wX0 g (AX 7) AK σK ℓK ++ wH g qH σH_1) := hD.sub [29, 0, 1, 2, 3, 4, 5, 6, 7, 8, 9, 10, 11, 12, 13, 14, 15, 30, 31, 16, 17, 18, 19, 20, 21, 22, 23, 24, 25, 26, 27, 28] (by decide) rfl
            obtain rfl : r_185 = r_w := hw.symm
            refine lv_iconst (v := 3) hx hb dL_law_756 (by decide) ?_
            refine lv_icmp_ne (tgt := 935) hx hb dL_law_757 (by decide) (fun c_189 => ?_) (fun c_189 => ?_)
            · have hF := q_if_f c_189 hF
              refine lv_iconst (v := 0) hx hb dL_law_935 (by decide) ?_
              exact absurd hF (by decide)
            · have hF := q_if_t (by first | exact c_189 | exact Classical.not_not.mp c_189) hF
              refine lv_aload_n hx hb dL_law_760 rfl (lv_at hl 4 rfl) ?_
              refine lv_bipush (v := 65) hx hb dL_law_761 (by decide) ?_
              refine lv_iload hx hb dL_law_763 (lv_at hl 9 rfl) ?_
              refine lv_iadd hx hb dL_law_765 ?_
              obtain ⟨⟨r_190, σP_191⟩, h_192, hF⟩ := q_cl_s hF
              try dsimp only at hF
              refine gcV_i (As := [.int ((65 : Int32) + v10)]) (rest := []) (ci := 6) (q := (RX6, TX6, 8)) F hK hN hP hD hS hA (m_X6_say l g H.size qX AX AP σP_186 ((65 : Int32) + v10) r_190 σP_191 h_192) gL_law_X6_say kX6_say rfl rfl rfl rfl ⟨(Nat.le_of_ble_eq_true rfl), (Nat.le_of_ble_eq_true rfl)⟩ [0, 17, 18] [1, 2, 3, 4, 5, 6, 7, 8, 9, 10, 11, 12, 13, 14, 15, 16, 19, 20, 21, 22, 23, 24, 25, 26, 27, 28, 29, 30, 31] rfl rfl rfl (by decide) rfl rfl rfl rfl rfl hl.1 (Nat.le_of_ble_eq_true rfl) dL_law_766 ⟨(Nat.le_of_ble_eq_true rfl), (Nat.le_of_ble_eq_true rfl)⟩ (fun r_w u_w H locs hw hP hD hS => ?_)
              have hP : va_P g.1 vwCl (wX6 qX AX ++ wX1 g (AX 0) AC σC ++ wX1 g (AX 1) AD σD_1 ++ wX3 g (AX 3) AP σP_191 ++ wX2 (AX 4) σN_1 ++ wX5 g (AX 5) AW (.ref qH) σW_1 ++ wX4 g (AX 6) AY σY ++ wX0 g (AX 7) AK σK ℓK ++ wH g qH σH_1) H := hP.sub [29, 0, 1, 2, 3, 4, 5, 6, 7, 8, 9, 10, 11, 12, 13, 14, 15, 30, 31, 16, 17, 18, 19, 20, 21, 22, 23, 24, 25, 26, 27, 28] rfl
              have hD : va_D Z (wX6 qX AX ++ wX1 g (AX 0) AC σC ++ wX1 g (AX 1) AD σD_1 ++ wX3 g (AX 3) AP σP_191 ++ wX2 (AX 4) σN_1 ++ wX5 g (AX 5) AW (.ref qH) σW_1 ++ wX4 g (AX 6) AY σY ++ wX0 g (AX 7) AK σK ℓK ++ wH g qH σH_1) := hD.sub [29, 0, 1, 2, 3, 4, 5, 6, 7, 8, 9, 10, 11, 12, 13, 14, 15, 30, 31, 16, 17, 18, 19, 20, 21, 22, 23, 24, 25, 26, 27, 28] (by decide) rfl
              obtain rfl : r_190 = r_w := hw.symm
              refine lv_iconst (v := 4) hx hb dL_law_769 (by decide) ?_
              refine lv_icmp_ne (tgt := 935) hx hb dL_law_770 (by decide) (fun c_194 => ?_) (fun c_194 => ?_)
              · have hF := q_if_f c_194 hF
                refine lv_iconst (v := 0) hx hb dL_law_935 (by decide) ?_
                exact absurd hF (by decide)
              · have hF := q_if_t (by first | exact c_194 | exact Classical.not_not.mp c_194) hF
                refine lv_aload_n hx hb dL_law_773 rfl (lv_at hl 4 rfl) ?_
                refine lv_bipush (v := 42) hx hb dL_law_774 (by decide) ?_
                obtain ⟨⟨r_195, σP_196⟩, h_197, hF⟩ := q_cl_s hF
                try dsimp only at hF
                refine gcV_i (As := [.int 42]) (rest := []) (ci := 6) (q := (RX6, TX6, 8)) F hK hN hP hD hS hA (m_X6_say l g H.size qX AX AP σP_191 (42 : Int32) r_195 σP_196 h_197) gL_law_X6_say kX6_say rfl rfl rfl rfl ⟨(Nat.le_of_ble_eq_true rfl), (Nat.le_of_ble_eq_true rfl)⟩ [0, 17, 18] [1, 2, 3, 4, 5, 6, 7, 8, 9, 10, 11, 12, 13, 14, 15, 16, 19, 20, 21, 22, 23, 24, 25, 26, 27, 28, 29, 30, 31] rfl rfl rfl (by decide) rfl rfl rfl rfl rfl hl.1 (Nat.le_of_ble_eq_true rfl) dL_law_776 ⟨(Nat.le_of_ble_eq_true rfl), (Nat.le_of_ble_eq_true rfl)⟩ (fun r_w u_w H locs hw hP hD hS => ?_)
                have hP : va_P g.1 vwCl (wX6 qX AX ++ wX1 g (AX 0) AC σC ++ wX1 g (AX 1) AD σD_1 ++ wX3 g (AX 3) AP σP_196 ++ wX2 (AX 4) σN_1 ++ wX5 g (AX 5) AW (.ref qH) σW_1 ++ wX4 g (AX 6) AY σY ++ wX0 g (AX 7) AK σK ℓK ++ wH g qH σH_1) H := hP.sub [29, 0, 1, 2, 3, 4, 5, 6, 7, 8, 9, 10, 11, 12, 13, 14, 15, 30, 31, 16, 17, 18, 19, 20, 21, 22, 23, 24, 25, 26, 27, 28] rfl
                have hD : va_D Z (wX6 qX AX ++ wX1 g (AX 0) AC σC ++ wX1 g (AX 1) AD σD_1 ++ wX3 g (AX 3) AP σP_196 ++ wX2 (AX 4) σN_1 ++ wX5 g (AX 5) AW (.ref qH) σW_1 ++ wX4 g (AX 6) AY σY ++ wX0 g (AX 7) AK σK ℓK ++ wH g qH σH_1) := hD.sub [29, 0, 1, 2, 3, 4, 5, 6, 7, 8, 9, 10, 11, 12, 13, 14, 15, 30, 31, 16, 17, 18, 19, 20, 21, 22, 23, 24, 25, 26, 27, 28] (by decide) rfl
                obtain rfl : r_195 = r_w := hw.symm
                refine lv_iconst (v := 5) hx hb dL_law_779 (by decide) ?_
                refine lv_icmp_ne (tgt := 935) hx hb dL_law_780 (by decide) (fun c_199 => ?_) (fun c_199 => ?_)
                · have hF := q_if_f c_199 hF
                  refine lv_iconst (v := 0) hx hb dL_law_935 (by decide) ?_
                  exact absurd hF (by decide)
                · have hF := q_if_t (by first | exact c_199 | exact Classical.not_not.mp c_199) hF
                  refine lv_aload_n hx hb dL_law_783 rfl (lv_at hl 4 rfl) ?_
                  refine lv_iconst (v := 1) hx hb dL_law_784 (by decide) ?_
                  obtain ⟨⟨r_200, σN_201, σD_202⟩, h_203, hF⟩ := q_cl_s hF
                  try dsimp only at hF
                  refine gcV_i (As := [.int 1]) (rest := []) (ci := 6) (q := (RX6, TX6, 8)) F hK hN hP hD hS hA (m_X6_pan l g H.size qX AX σN_1 AP σP_196 AD σD_1 AC σC (1 : Int32) r_200 σN_201 σD_202 h_203) gL_law_X6_pan kX6_pan rfl rfl rfl rfl ⟨(Nat.le_of_ble_eq_true rfl), (Nat.le_of_ble_eq_true rfl)⟩ [0, 19, 17, 18, 9, 10, 11, 12, 13, 14, 15, 16, 1, 2, 3, 4, 5, 6, 7, 8] [20, 21, 22, 23, 24, 25, 26, 27, 28, 29, 30, 31] rfl rfl rfl (by decide) rfl rfl rfl rfl rfl hl.1 (Nat.le_of_ble_eq_true rfl) dL_law_785 ⟨(Nat.le_of_ble_eq_true rfl), (Nat.le_of_ble_eq_true rfl)⟩ (fun r_w u_w H locs hw hP hD hS => ?_)
                  have hP : va_P g.1 vwCl (wX6 qX AX ++ wX1 g (AX 0) AC σC ++ wX1 g (AX 1) AD σD_202 ++ wX3 g (AX 3) AP σP_196 ++ wX2 (AX 4) σN_201 ++ wX5 g (AX 5) AW (.ref qH) σW_1 ++ wX4 g (AX 6) AY σY ++ wX0 g (AX 7) AK σK ℓK ++ wH g qH σH_1) H := hP.sub [12, 24, 25, 26, 27, 28, 29, 30, 31, 16, 17, 18, 19, 20, 21, 22, 23, 14, 15, 13, 0, 1, 2, 3, 4, 5, 6, 7, 8, 9, 10, 11] rfl
                  have hD : va_D Z (wX6 qX AX ++ wX1 g (AX 0) AC σC ++ wX1 g (AX 1) AD σD_202 ++ wX3 g (AX 3) AP σP_196 ++ wX2 (AX 4) σN_201 ++ wX5 g (AX 5) AW (.ref qH) σW_1 ++ wX4 g (AX 6) AY σY ++ wX0 g (AX 7) AK σK ℓK ++ wH g qH σH_1) := hD.sub [12, 24, 25, 26, 27, 28, 29, 30, 31, 16, 17, 18, 19, 20, 21, 22, 23, 14, 15, 13, 0, 1, 2, 3, 4, 5, 6, 7, 8, 9, 10, 11] (by decide) rfl
                  obtain rfl : r_200 = r_w := hw.symm
                  refine lv_iload hx hb dL_law_788 (lv_at hl 1 rfl) ?_
                  refine lv_iconst (v := 5) hx hb dL_law_790 (by decide) ?_
                  refine lv_icmp_le (tgt := 801) hx hb dL_law_791 (by decide) (fun c_205 => ?_) (fun c_205 => ?_)
                  · have hF := q_if_t c_205 hF
                    refine lv_iconst (v := 0) hx hb dL_law_801 (by decide) ?_
                    refine lv_icmp_ne (tgt := 935) hx hb dL_law_802 (by decide) (fun c_206 => ?_) (fun c_206 => ?_)
                    · have hF := q_if_f c_206 hF
                      refine lv_iconst (v := 0) hx hb dL_law_935 (by decide) ?_
                      exact absurd hF (by decide)
                    · have hF := q_if_t (by first | exact c_206 | exact Classical.not_not.mp c_206) hF
                      refine lv_aload_n hx hb dL_law_805 rfl (lv_at hl 4 rfl) ?_
                      refine lv_iload hx hb dL_law_806 (lv_at hl 9 rfl) ?_
                      refine lv_iconst (v := 0) hx hb dL_law_808 (by decide) ?_
                      obtain ⟨⟨r_207, σN_208, σD_209⟩, h_210, hF⟩ := q_cl_s hF
                      try dsimp only at hF
                      refine gcV_i (As := [.int v10, .int 0]) (rest := []) (ci := 6) (q := (RX6, TX6, 8)) F hK hN hP hD hS hA (m_X6_behind l g H.size qX AX σN_201 AP σP_196 AD σD_202 AC σC v10 (0 : Int32) r_207 σN_208 σD_209 h_210) gL_law_X6_behind kX6_behind rfl rfl rfl rfl ⟨(Nat.le_of_ble_eq_true rfl), (Nat.le_of_ble_eq_true rfl)⟩ [0, 19, 17, 18, 9, 10, 11, 12, 13, 14, 15, 16, 1, 2, 3, 4, 5, 6, 7, 8] [20, 21, 22, 23, 24, 25, 26, 27, 28, 29, 30, 31] rfl rfl rfl (by decide) rfl rfl rfl rfl rfl hl.1 (Nat.le_of_ble_eq_true rfl) dL_law_809 ⟨(Nat.le_of_ble_eq_true rfl), (Nat.le_of_ble_eq_true rfl)⟩ (fun r_w u_w H locs hw hP hD hS => ?_)
                      have hP : va_P g.1 vwCl (wX6 qX AX ++ wX1 g (AX 0) AC σC ++ wX1 g (AX 1) AD σD_209 ++ wX3 g (AX 3) AP σP_196 ++ wX2 (AX 4) σN_208 ++ wX5 g (AX 5) AW (.ref qH) σW_1 ++ wX4 g (AX 6) AY σY ++ wX0 g (AX 7) AK σK ℓK ++ wH g qH σH_1) H := hP.sub [12, 24, 25, 26, 27, 28, 29, 30, 31, 16, 17, 18, 19, 20, 21, 22, 23, 14, 15, 13, 0, 1, 2, 3, 4, 5, 6, 7, 8, 9, 10, 11] rfl
                      have hD : va_D Z (wX6 qX AX ++ wX1 g (AX 0) AC σC ++ wX1 g (AX 1) AD σD_209 ++ wX3 g (AX 3) AP σP_196 ++ wX2 (AX 4) σN_208 ++ wX5 g (AX 5) AW (.ref qH) σW_1 ++ wX4 g (AX 6) AY σY ++ wX0 g (AX 7) AK σK ℓK ++ wH g qH σH_1) := hD.sub [12, 24, 25, 26, 27, 28, 29, 30, 31, 16, 17, 18, 19, 20, 21, 22, 23, 14, 15, 13, 0, 1, 2, 3, 4, 5, 6, 7, 8, 9, 10, 11] (by decide) rfl
                      obtain rfl : r_207 = r_w := hw.symm
                      refine lv_iload hx hb dL_law_812 (lv_at hl 0 rfl) ?_
                      refine lv_if_eq (tgt := 822) hx hb dL_law_814 (by decide) (fun c_212 => ?_) (fun c_212 => ?_)
                      · first | exact absurd c_212 (by decide) | exact c_212 (by decide)
                      · refine lv_iload hx hb dL_law_817 (lv_at hl 11 rfl) ?_
                        refine lv_goto (tgt := 824) hx hb dL_law_819 (by decide) ?_
                        refine lv_icmp_ne (tgt := 935) hx hb dL_law_824 (by decide) (fun c_213 => ?_) (fun c_213 => ?_)
                        · have hF := q_if_f c_213 hF
                          refine lv_iconst (v := 0) hx hb dL_law_935 (by decide) ?_
                          exact absurd hF (by decide)
                        · have hF := q_if_t (by first | exact c_213 | exact Classical.not_not.mp c_213) hF
                          refine lv_aload_n hx hb dL_law_827 rfl (lv_at hl 4 rfl) ?_
                          refine lv_iload hx hb dL_law_828 (lv_at hl 9 rfl) ?_
                          refine lv_iconst (v := 1) hx hb dL_law_830 (by decide) ?_
                          obtain ⟨⟨r_214, σN_215, σD_216⟩, h_217, hF⟩ := q_cl_s hF
                          try dsimp only at hF
                          refine gcV_i (As := [.int v10, .int 1]) (rest := []) (ci := 6) (q := (RX6, TX6, 8)) F hK hN hP hD hS hA (m_X6_behind l g H.size qX AX σN_208 AP σP_196 AD σD_209 AC σC v10 (1 : Int32) r_214 σN_215 σD_216 h_217) gL_law_X6_behind kX6_behind rfl rfl rfl rfl ⟨(Nat.le_of_ble_eq_true rfl), (Nat.le_of_ble_eq_true rfl)⟩ [0, 19, 17, 18, 9, 10, 11, 12, 13, 14, 15, 16, 1, 2, 3, 4, 5, 6, 7, 8] [20, 21, 22, 23, 24, 25, 26, 27, 28, 29, 30, 31] rfl rfl rfl (by decide) rfl rfl rfl rfl rfl hl.1 (Nat.le_of_ble_eq_true rfl) dL_law_831 ⟨(Nat.le_of_ble_eq_true rfl), (Nat.le_of_ble_eq_true rfl)⟩ (fun r_w u_w H locs hw hP hD hS => ?_)
                          have hP : va_P g.1 vwCl (wX6 qX AX ++ wX1 g (AX 0) AC σC ++ wX1 g (AX 1) AD σD_216 ++ wX3 g (AX 3) AP σP_196 ++ wX2 (AX 4) σN_215 ++ wX5 g (AX 5) AW (.ref qH) σW_1 ++ wX4 g (AX 6) AY σY ++ wX0 g (AX 7) AK σK ℓK ++ wH g qH σH_1) H := hP.sub [12, 24, 25, 26, 27, 28, 29, 30, 31, 16, 17, 18, 19, 20, 21, 22, 23, 14, 15, 13, 0, 1, 2, 3, 4, 5, 6, 7, 8, 9, 10, 11] rfl
                          have hD : va_D Z (wX6 qX AX ++ wX1 g (AX 0) AC σC ++ wX1 g (AX 1) AD σD_216 ++ wX3 g (AX 3) AP σP_196 ++ wX2 (AX 4) σN_215 ++ wX5 g (AX 5) AW (.ref qH) σW_1 ++ wX4 g (AX 6) AY σY ++ wX0 g (AX 7) AK σK ℓK ++ wH g qH σH_1) := hD.sub [12, 24, 25, 26, 27, 28, 29, 30, 31, 16, 17, 18, 19, 20, 21, 22, 23, 14, 15, 13, 0, 1, 2, 3, 4, 5, 6, 7, 8, 9, 10, 11] (by decide) rfl
                          obtain rfl : r_214 = r_w := hw.symm
                          refine lv_iload hx hb dL_law_834 (lv_at hl 0 rfl) ?_
                          refine lv_if_ne (tgt := 846) hx hb dL_law_836 (by decide) (fun c_219 => ?_) (fun c_219 => ?_)
                          · refine lv_iload hx hb dL_law_846 (lv_at hl 10 rfl) ?_
                            refine lv_goto (tgt := 855) hx hb dL_law_848 (by decide) ?_
                            refine lv_icmp_ne (tgt := 935) hx hb dL_law_855 (by decide) (fun c_220 => ?_) (fun c_220 => ?_)
                            · have hF := q_if_f c_220 hF
                              refine lv_iconst (v := 0) hx hb dL_law_935 (by decide) ?_
                              exact absurd hF (by decide)
                            · have hF := q_if_t (by first | exact c_220 | exact Classical.not_not.mp c_220) hF
                              refine lv_aload_n hx hb dL_law_858 rfl (lv_at hl 4 rfl) ?_
                              refine lv_iconst (v := 1) hx hb dL_law_859 (by decide) ?_
                              obtain ⟨⟨r_221, σN_222, σD_223⟩, h_224, hF⟩ := q_cl_s hF
                              try dsimp only at hF
                              refine gcV_i (As := [.int 1]) (rest := []) (ci := 6) (q := (RX6, TX6, 8)) F hK hN hP hD hS hA (m_X6_other l g H.size qX AX σN_215 AP σP_196 AD σD_216 AC σC (1 : Int32) r_221 σN_222 σD_223 h_224) gL_law_X6_other kX6_other rfl rfl rfl rfl ⟨(Nat.le_of_ble_eq_true rfl), (Nat.le_of_ble_eq_true rfl)⟩ [0, 19, 17, 18, 9, 10, 11, 12, 13, 14, 15, 16, 1, 2, 3, 4, 5, 6, 7, 8] [20, 21, 22, 23, 24, 25, 26, 27, 28, 29, 30, 31] rfl rfl rfl (by decide) rfl rfl rfl rfl rfl hl.1 (Nat.le_of_ble_eq_true rfl) dL_law_860 ⟨(Nat.le_of_ble_eq_true rfl), (Nat.le_of_ble_eq_true rfl)⟩ (fun r_w u_w H locs hw hP hD hS => ?_)
                              have hP : va_P g.1 vwCl (wX6 qX AX ++ wX1 g (AX 0) AC σC ++ wX1 g (AX 1) AD σD_223 ++ wX3 g (AX 3) AP σP_196 ++ wX2 (AX 4) σN_222 ++ wX5 g (AX 5) AW (.ref qH) σW_1 ++ wX4 g (AX 6) AY σY ++ wX0 g (AX 7) AK σK ℓK ++ wH g qH σH_1) H := hP.sub [12, 24, 25, 26, 27, 28, 29, 30, 31, 16, 17, 18, 19, 20, 21, 22, 23, 14, 15, 13, 0, 1, 2, 3, 4, 5, 6, 7, 8, 9, 10, 11] rfl
                              have hD : va_D Z (wX6 qX AX ++ wX1 g (AX 0) AC σC ++ wX1 g (AX 1) AD σD_223 ++ wX3 g (AX 3) AP σP_196 ++ wX2 (AX 4) σN_222 ++ wX5 g (AX 5) AW (.ref qH) σW_1 ++ wX4 g (AX 6) AY σY ++ wX0 g (AX 7) AK σK ℓK ++ wH g qH σH_1) := hD.sub [12, 24, 25, 26, 27, 28, 29, 30, 31, 16, 17, 18, 19, 20, 21, 22, 23, 14, 15, 13, 0, 1, 2, 3, 4, 5, 6, 7, 8, 9, 10, 11] (by decide) rfl
                              obtain rfl : r_221 = r_w := hw.symm
                              refine lv_iload hx hb dL_law_863 (lv_at hl 0 rfl) ?_
                              refine lv_if_eq (tgt := 873) hx hb dL_law_865 (by decide) (fun c_226 => ?_) (fun c_226 => ?_)
                              · first | exact absurd c_226 (by decide) | exact c_226 (by decide)
                              · refine lv_iload hx hb dL_law_868 (lv_at hl 9 rfl) ?_
                                refine lv_goto (tgt := 875) hx hb dL_law_870 (by decide) ?_
                                refine lv_icmp_ne (tgt := 935) hx hb dL_law_875 (by decide) (fun c_227 => ?_) (fun c_227 => ?_)
                                · have hF := q_if_f c_227 hF
                                  refine lv_iconst (v := 0) hx hb dL_law_935 (by decide) ?_
                                  exact absurd hF (by decide)
                                · have hF := q_if_t (by first | exact c_227 | exact Classical.not_not.mp c_227) hF
                                  refine lv_aload_n hx hb dL_law_878 rfl (lv_at hl 4 rfl) ?_
                                  obtain ⟨⟨r_228, σP_229⟩, h_230, hF⟩ := q_cl_s hF
                                  try dsimp only at hF
                                  refine gcV_i (As := []) (rest := []) (ci := 6) (q := (RX6, TX6, 8)) F hK hN hP hD hS hA (m_X6_wipe l g H.size qX AX AP σP_196 r_228 σP_229 h_230) gL_law_X6_wipe kX6_wipe rfl rfl rfl rfl ⟨(Nat.le_of_ble_eq_true rfl), (Nat.le_of_ble_eq_true rfl)⟩ [0, 17, 18] [1, 2, 3, 4, 5, 6, 7, 8, 9, 10, 11, 12, 13, 14, 15, 16, 19, 20, 21, 22, 23, 24, 25, 26, 27, 28, 29, 30, 31] rfl rfl rfl (by decide) rfl rfl rfl rfl rfl hl.1 (Nat.le_of_ble_eq_true rfl) dL_law_879 ⟨(Nat.le_of_ble_eq_true rfl), (Nat.le_of_ble_eq_true rfl)⟩ (fun r_w u_w H locs hw hP hD hS => ?_)
                                  have hP : va_P g.1 vwCl (wX6 qX AX ++ wX1 g (AX 0) AC σC ++ wX1 g (AX 1) AD σD_223 ++ wX3 g (AX 3) AP σP_229 ++ wX2 (AX 4) σN_222 ++ wX5 g (AX 5) AW (.ref qH) σW_1 ++ wX4 g (AX 6) AY σY ++ wX0 g (AX 7) AK σK ℓK ++ wH g qH σH_1) H := hP.sub [29, 0, 1, 2, 3, 4, 5, 6, 7, 8, 9, 10, 11, 12, 13, 14, 15, 30, 31, 16, 17, 18, 19, 20, 21, 22, 23, 24, 25, 26, 27, 28] rfl
                                  have hD : va_D Z (wX6 qX AX ++ wX1 g (AX 0) AC σC ++ wX1 g (AX 1) AD σD_223 ++ wX3 g (AX 3) AP σP_229 ++ wX2 (AX 4) σN_222 ++ wX5 g (AX 5) AW (.ref qH) σW_1 ++ wX4 g (AX 6) AY σY ++ wX0 g (AX 7) AK σK ℓK ++ wH g qH σH_1) := hD.sub [29, 0, 1, 2, 3, 4, 5, 6, 7, 8, 9, 10, 11, 12, 13, 14, 15, 30, 31, 16, 17, 18, 19, 20, 21, 22, 23, 24, 25, 26, 27, 28] (by decide) rfl
                                  obtain rfl : r_228 = r_w := hw.symm
                                  refine lv_iconst (v := 5) hx hb dL_law_882 (by decide) ?_
                                  refine lv_icmp_ne (tgt := 935) hx hb dL_law_883 (by decide) (fun c_232 => ?_) (fun c_232 => ?_)
                                  · have hF := q_if_f c_232 hF
                                    refine lv_iconst (v := 0) hx hb dL_law_935 (by decide) ?_
                                    exact absurd hF (by decide)
                                  · have hF := q_if_t (by first | exact c_232 | exact Classical.not_not.mp c_232) hF
                                    refine lv_aload_n hx hb dL_law_886 rfl (lv_at hl 4 rfl) ?_
                                    refine lv_bipush (v := 10) hx hb dL_law_887 (by decide) ?_
                                    refine lv_iload hx hb dL_law_889 (lv_at hl 2 rfl) ?_
                                    refine lv_imul hx hb dL_law_891 ?_
                                    refine lv_iconst (v := 0) hx hb dL_law_892 (by decide) ?_
                                    obtain ⟨⟨r_233, σW_234, σH_235⟩, h_236, hF⟩ := q_cl_s hF
                                    try dsimp only at hF
                                    refine gcV_i (As := [.int ((10 : Int32) * v13_1), .int 0]) (rest := []) (ci := 6) (q := (RX6, TX6, 8)) F hK hN hP hD hS hA (m_X6_round l g H.size qX AX AW σW_1 qH σH_1 AC σC ((10 : Int32) * v13_1) (0 : Int32) r_233 σW_234 σH_235 h_236) gL_law_X6_round kX6_round rfl rfl rfl rfl ⟨(Nat.le_of_ble_eq_true rfl), (Nat.le_of_ble_eq_true rfl)⟩ [0, 20, 21, 22, 31, 1, 2, 3, 4, 5, 6, 7, 8] [9, 10, 11, 12, 13, 14, 15, 16, 17, 18, 19, 23, 24, 25, 26, 27, 28, 29, 30] rfl rfl rfl (by decide) rfl rfl rfl rfl rfl hl.1 (Nat.le_of_ble_eq_true rfl) dL_law_893 ⟨(Nat.le_of_ble_eq_true rfl), (Nat.le_of_ble_eq_true rfl)⟩ (fun r_w u_w H locs hw hP hD hS => ?_)
                                    have hP : va_P g.1 vwCl (wX6 qX AX ++ wX1 g (AX 0) AC σC ++ wX1 g (AX 1) AD σD_223 ++ wX3 g (AX 3) AP σP_229 ++ wX2 (AX 4) σN_222 ++ wX5 g (AX 5) AW (.ref qH) σW_234 ++ wX4 g (AX 6) AY σY ++ wX0 g (AX 7) AK σK ℓK ++ wH g qH σH_235) H := hP.sub [19, 24, 25, 26, 27, 28, 29, 30, 31, 0, 1, 2, 3, 4, 5, 6, 7, 8, 9, 10, 20, 21, 22, 11, 12, 13, 14, 15, 16, 17, 18, 23] rfl
                                    have hD : va_D Z (wX6 qX AX ++ wX1 g (AX 0) AC σC ++ wX1 g (AX 1) AD σD_223 ++ wX3 g (AX 3) AP σP_229 ++ wX2 (AX 4) σN_222 ++ wX5 g (AX 5) AW (.ref qH) σW_234 ++ wX4 g (AX 6) AY σY ++ wX0 g (AX 7) AK σK ℓK ++ wH g qH σH_235) := hD.sub [19, 24, 25, 26, 27, 28, 29, 30, 31, 0, 1, 2, 3, 4, 5, 6, 7, 8, 9, 10, 20, 21, 22, 11, 12, 13, 14, 15, 16, 17, 18, 23] (by decide) rfl
                                    obtain rfl : r_233 = r_w := hw.symm
                                    refine lv_iload hx hb dL_law_896 (lv_at hl 0 rfl) ?_
                                    refine lv_if_eq (tgt := 905) hx hb dL_law_898 (by decide) (fun c_238 => ?_) (fun c_238 => ?_)
                                    · first | exact absurd c_238 (by decide) | exact c_238 (by decide)
                                    · refine lv_iconst (v := 1) hx hb dL_law_901 (by decide) ?_
                                      refine lv_goto (tgt := 906) hx hb dL_law_902 (by decide) ?_
                                      refine lv_icmp_ne (tgt := 935) hx hb dL_law_906 (by decide) (fun c_239 => ?_) (fun c_239 => ?_)
                                      · have hF := q_if_f c_239 hF
                                        refine lv_iconst (v := 0) hx hb dL_law_935 (by decide) ?_
                                        exact absurd hF (by decide)
                                      · have hF := q_if_t (by first | exact c_239 | exact Classical.not_not.mp c_239) hF
                                        refine lv_aload_n hx hb dL_law_909 rfl (lv_at hl 4 rfl) ?_
                                        refine lv_bipush (v := 10) hx hb dL_law_910 (by decide) ?_
                                        refine lv_iload hx hb dL_law_912 (lv_at hl 2 rfl) ?_
                                        refine lv_imul hx hb dL_law_914 ?_
                                        refine lv_iconst (v := 1) hx hb dL_law_915 (by decide) ?_
                                        obtain ⟨⟨r_240, σW_241, σH_242⟩, h_243, hF⟩ := q_cl_s hF
                                        try dsimp only at hF
                                        refine gcV_i (As := [.int ((10 : Int32) * v13_1), .int 1]) (rest := []) (ci := 6) (q := (RX6, TX6, 8)) F hK hN hP hD hS hA (m_X6_round l g H.size qX AX AW σW_234 qH σH_235 AC σC ((10 : Int32) * v13_1) (1 : Int32) r_240 σW_241 σH_242 h_243) gL_law_X6_round kX6_round rfl rfl rfl rfl ⟨(Nat.le_of_ble_eq_true rfl), (Nat.le_of_ble_eq_true rfl)⟩ [0, 20, 21, 22, 31, 1, 2, 3, 4, 5, 6, 7, 8] [9, 10, 11, 12, 13, 14, 15, 16, 17, 18, 19, 23, 24, 25, 26, 27, 28, 29, 30] rfl rfl rfl (by decide) rfl rfl rfl rfl rfl hl.1 (Nat.le_of_ble_eq_true rfl) dL_law_916 ⟨(Nat.le_of_ble_eq_true rfl), (Nat.le_of_ble_eq_true rfl)⟩ (fun r_w u_w H locs hw hP hD hS => ?_)
                                        have hP : va_P g.1 vwCl (wX6 qX AX ++ wX1 g (AX 0) AC σC ++ wX1 g (AX 1) AD σD_223 ++ wX3 g (AX 3) AP σP_229 ++ wX2 (AX 4) σN_222 ++ wX5 g (AX 5) AW (.ref qH) σW_241 ++ wX4 g (AX 6) AY σY ++ wX0 g (AX 7) AK σK ℓK ++ wH g qH σH_242) H := hP.sub [19, 24, 25, 26, 27, 28, 29, 30, 31, 0, 1, 2, 3, 4, 5, 6, 7, 8, 9, 10, 20, 21, 22, 11, 12, 13, 14, 15, 16, 17, 18, 23] rfl
                                        have hD : va_D Z (wX6 qX AX ++ wX1 g (AX 0) AC σC ++ wX1 g (AX 1) AD σD_223 ++ wX3 g (AX 3) AP σP_229 ++ wX2 (AX 4) σN_222 ++ wX5 g (AX 5) AW (.ref qH) σW_241 ++ wX4 g (AX 6) AY σY ++ wX0 g (AX 7) AK σK ℓK ++ wH g qH σH_242) := hD.sub [19, 24, 25, 26, 27, 28, 29, 30, 31, 0, 1, 2, 3, 4, 5, 6, 7, 8, 9, 10, 20, 21, 22, 11, 12, 13, 14, 15, 16, 17, 18, 23] (by decide) rfl
                                        obtain rfl : r_240 = r_w := hw.symm
                                        refine lv_iload hx hb dL_law_919 (lv_at hl 0 rfl) ?_
                                        refine lv_if_eq (tgt := 931) hx hb dL_law_921 (by decide) (fun c_245 => ?_) (fun c_245 => ?_)
                                        · first | exact absurd c_245 (by decide) | exact c_245 (by decide)
                                        · refine lv_iconst (v := 1) hx hb dL_law_924 (by decide) ?_
                                          refine lv_iload hx hb dL_law_925 (lv_at hl 9 rfl) ?_
                                          refine lv_ishl hx hb dL_law_927 ?_
                                          refine lv_goto (tgt := 932) hx hb dL_law_928 (by decide) ?_
                                          refine lv_icmp_eq (tgt := 937) hx hb dL_law_932 (by decide) (fun c_246 => ?_) (fun c_246 => ?_)
                                          · have hF := q_if_t c_246 hF
                                            refine lv_iinc (v := v13_1 + 1) (lv' := [(13, .int (v13_1 + 1)), (15, .int 1), (14, .int v14_3), (0, .ref b), (1, .ref qX), (2, .int v2), (4, .int v4), (7, .int v7), (9, .int v9), (10, .int v10), (11, .int v11), (12, .int v12)]) hx hb dL_law_937 hl (k := 2) rfl rfl (by decide) rfl (fun ls hl => ?_)
                                            refine lv_goto (tgt := 690) hx hb dL_law_940 (by decide) ?_
                                            exact ag (v13_1 + 1, σD_223, σP_229, σN_222, σW_241, σH_242) hF _ _ _ hP hD hS (lv_sub hl [0, 3, 4, 5, 6, 7, 8, 9, 10, 11] rfl)
                                          · have hF := q_if_f c_246 hF
                                            refine lv_iconst (v := 0) hx hb dL_law_935 (by decide) ?_
                                            exact absurd hF (by decide)
                          · first | exact absurd c_219 (by decide) | exact c_219 (by decide)
                  · have hF := q_if_f c_205 hF
                    refine lv_iload hx hb dL_law_794 (lv_at hl 1 rfl) ?_
                    refine lv_iconst (v := 5) hx hb dL_law_796 (by decide) ?_
                    refine lv_isub hx hb dL_law_797 ?_
                    refine lv_goto (tgt := 802) hx hb dL_law_798 (by decide) ?_
                    refine lv_icmp_ne (tgt := 935) hx hb dL_law_802 (by decide) (fun c_247 => ?_) (fun c_247 => ?_)
                    · have hF := q_if_f c_247 hF
                      refine lv_iconst (v := 0) hx hb dL_law_935 (by decide) ?_
                      exact absurd hF (by decide)
                    · have hF := q_if_t (by first | exact c_247 | exact Classical.not_not.mp c_247) hF
                      refine lv_aload_n hx hb dL_law_805 rfl (lv_at hl 4 rfl) ?_
                      refine lv_iload hx hb dL_law_806 (lv_at hl 9 rfl) ?_
                      refine lv_iconst (v := 0) hx hb dL_law_808 (by decide) ?_
                      obtain ⟨⟨r_248, σN_249, σD_250⟩, h_251, hF⟩ := q_cl_s hF
                      try dsimp only at hF
                      refine gcV_i (As := [.int v10, .int 0]) (rest := []) (ci := 6) (q := (RX6, TX6, 8)) F hK hN hP hD hS hA (m_X6_behind l g H.size qX AX σN_201 AP σP_196 AD σD_202 AC σC v10 (0 : Int32) r_248 σN_249 σD_250 h_251) gL_law_X6_behind kX6_behind rfl rfl rfl rfl ⟨(Nat.le_of_ble_eq_true rfl), (Nat.le_of_ble_eq_true rfl)⟩ [0, 19, 17, 18, 9, 10, 11, 12, 13, 14, 15, 16, 1, 2, 3, 4, 5, 6, 7, 8] [20, 21, 22, 23, 24, 25, 26, 27, 28, 29, 30, 31] rfl rfl rfl (by decide) rfl rfl rfl rfl rfl hl.1 (Nat.le_of_ble_eq_true rfl) dL_law_809 ⟨(Nat.le_of_ble_eq_true rfl), (Nat.le_of_ble_eq_true rfl)⟩ (fun r_w u_w H locs hw hP hD hS => ?_)
                      have hP : va_P g.1 vwCl (wX6 qX AX ++ wX1 g (AX 0) AC σC ++ wX1 g (AX 1) AD σD_250 ++ wX3 g (AX 3) AP σP_196 ++ wX2 (AX 4) σN_249 ++ wX5 g (AX 5) AW (.ref qH) σW_1 ++ wX4 g (AX 6) AY σY ++ wX0 g (AX 7) AK σK ℓK ++ wH g qH σH_1) H := hP.sub [12, 24, 25, 26, 27, 28, 29, 30, 31, 16, 17, 18, 19, 20, 21, 22, 23, 14, 15, 13, 0, 1, 2, 3, 4, 5, 6, 7, 8, 9, 10, 11] rfl
                      have hD : va_D Z (wX6 qX AX ++ wX1 g (AX 0) AC σC ++ wX1 g (AX 1) AD σD_250 ++ wX3 g (AX 3) AP σP_196 ++ wX2 (AX 4) σN_249 ++ wX5 g (AX 5) AW (.ref qH) σW_1 ++ wX4 g (AX 6) AY σY ++ wX0 g (AX 7) AK σK ℓK ++ wH g qH σH_1) := hD.sub [12, 24, 25, 26, 27, 28, 29, 30, 31, 16, 17, 18, 19, 20, 21, 22, 23, 14, 15, 13, 0, 1, 2, 3, 4, 5, 6, 7, 8, 9, 10, 11] (by decide) rfl
                      obtain rfl : r_248 = r_w := hw.symm
                      refine lv_iload hx hb dL_law_812 (lv_at hl 0 rfl) ?_
                      refine lv_if_eq (tgt := 822) hx hb dL_law_814 (by decide) (fun c_253 => ?_) (fun c_253 => ?_)
                      · first | exact absurd c_253 (by decide) | exact c_253 (by decide)
                      · refine lv_iload hx hb dL_law_817 (lv_at hl 11 rfl) ?_
                        refine lv_goto (tgt := 824) hx hb dL_law_819 (by decide) ?_
                        refine lv_icmp_ne (tgt := 935) hx hb dL_law_824 (by decide) (fun c_254 => ?_) (fun c_254 => ?_)
                        · have hF := q_if_f c_254 hF
                          refine lv_iconst (v := 0) hx hb dL_law_935 (by decide) ?_
                          exact absurd hF (by decide)
                        · have hF := q_if_t (by first | exact c_254 | exact Classical.not_not.mp c_254) hF
                          refine lv_aload_n hx hb dL_law_827 rfl (lv_at hl 4 rfl) ?_
                          refine lv_iload hx hb dL_law_828 (lv_at hl 9 rfl) ?_
                          refine lv_iconst (v := 1) hx hb dL_law_830 (by decide) ?_
                          obtain ⟨⟨r_255, σN_256, σD_257⟩, h_258, hF⟩ := q_cl_s hF
                          try dsimp only at hF
                          refine gcV_i (As := [.int v10, .int 1]) (rest := []) (ci := 6) (q := (RX6, TX6, 8)) F hK hN hP hD hS hA (m_X6_behind l g H.size qX AX σN_249 AP σP_196 AD σD_250 AC σC v10 (1 : Int32) r_255 σN_256 σD_257 h_258) gL_law_X6_behind kX6_behind rfl rfl rfl rfl ⟨(Nat.le_of_ble_eq_true rfl), (Nat.le_of_ble_eq_true rfl)⟩ [0, 19, 17, 18, 9, 10, 11, 12, 13, 14, 15, 16, 1, 2, 3, 4, 5, 6, 7, 8] [20, 21, 22, 23, 24, 25, 26, 27, 28, 29, 30, 31] rfl rfl rfl (by decide) rfl rfl rfl rfl rfl hl.1 (Nat.le_of_ble_eq_true rfl) dL_law_831 ⟨(Nat.le_of_ble_eq_true rfl), (Nat.le_of_ble_eq_true rfl)⟩ (fun r_w u_w H locs hw hP hD hS => ?_)
                          have hP : va_P g.1 vwCl (wX6 qX AX ++ wX1 g (AX 0) AC σC ++ wX1 g (AX 1) AD σD_257 ++ wX3 g (AX 3) AP σP_196 ++ wX2 (AX 4) σN_256 ++ wX5 g (AX 5) AW (.ref qH) σW_1 ++ wX4 g (AX 6) AY σY ++ wX0 g (AX 7) AK σK ℓK ++ wH g qH σH_1) H := hP.sub [12, 24, 25, 26, 27, 28, 29, 30, 31, 16, 17, 18, 19, 20, 21, 22, 23, 14, 15, 13, 0, 1, 2, 3, 4, 5, 6, 7, 8, 9, 10, 11] rfl
                          have hD : va_D Z (wX6 qX AX ++ wX1 g (AX 0) AC σC ++ wX1 g (AX 1) AD σD_257 ++ wX3 g (AX 3) AP σP_196 ++ wX2 (AX 4) σN_256 ++ wX5 g (AX 5) AW (.ref qH) σW_1 ++ wX4 g (AX 6) AY σY ++ wX0 g (AX 7) AK σK ℓK ++ wH g qH σH_1) := hD.sub [12, 24, 25, 26, 27, 28, 29, 30, 31, 16, 17, 18, 19, 20, 21, 22, 23, 14, 15, 13, 0, 1, 2, 3, 4, 5, 6, 7, 8, 9, 10, 11] (by decide) rfl
                          obtain rfl : r_255 = r_w := hw.symm
                          refine lv_iload hx hb dL_law_834 (lv_at hl 0 rfl) ?_
                          refine lv_if_ne (tgt := 846) hx hb dL_law_836 (by decide) (fun c_260 => ?_) (fun c_260 => ?_)
                          · refine lv_iload hx hb dL_law_846 (lv_at hl 10 rfl) ?_
                            refine lv_goto (tgt := 855) hx hb dL_law_848 (by decide) ?_
                            refine lv_icmp_ne (tgt := 935) hx hb dL_law_855 (by decide) (fun c_261 => ?_) (fun c_261 => ?_)
                            · have hF := q_if_f c_261 hF
                              refine lv_iconst (v := 0) hx hb dL_law_935 (by decide) ?_
                              exact absurd hF (by decide)
                            · have hF := q_if_t (by first | exact c_261 | exact Classical.not_not.mp c_261) hF
                              refine lv_aload_n hx hb dL_law_858 rfl (lv_at hl 4 rfl) ?_
                              refine lv_iconst (v := 1) hx hb dL_law_859 (by decide) ?_
                              obtain ⟨⟨r_262, σN_263, σD_264⟩, h_265, hF⟩ := q_cl_s hF
                              try dsimp only at hF
                              refine gcV_i (As := [.int 1]) (rest := []) (ci := 6) (q := (RX6, TX6, 8)) F hK hN hP hD hS hA (m_X6_other l g H.size qX AX σN_256 AP σP_196 AD σD_257 AC σC (1 : Int32) r_262 σN_263 σD_264 h_265) gL_law_X6_other kX6_other rfl rfl rfl rfl ⟨(Nat.le_of_ble_eq_true rfl), (Nat.le_of_ble_eq_true rfl)⟩ [0, 19, 17, 18, 9, 10, 11, 12, 13, 14, 15, 16, 1, 2, 3, 4, 5, 6, 7, 8] [20, 21, 22, 23, 24, 25, 26, 27, 28, 29, 30, 31] rfl rfl rfl (by decide) rfl rfl rfl rfl rfl hl.1 (Nat.le_of_ble_eq_true rfl) dL_law_860 ⟨(Nat.le_of_ble_eq_true rfl), (Nat.le_of_ble_eq_true rfl)⟩ (fun r_w u_w H locs hw hP hD hS => ?_)
                              have hP : va_P g.1 vwCl (wX6 qX AX ++ wX1 g (AX 0) AC σC ++ wX1 g (AX 1) AD σD_264 ++ wX3 g (AX 3) AP σP_196 ++ wX2 (AX 4) σN_263 ++ wX5 g (AX 5) AW (.ref qH) σW_1 ++ wX4 g (AX 6) AY σY ++ wX0 g (AX 7) AK σK ℓK ++ wH g qH σH_1) H := hP.sub [12, 24, 25, 26, 27, 28, 29, 30, 31, 16, 17, 18, 19, 20, 21, 22, 23, 14, 15, 13, 0, 1, 2, 3, 4, 5, 6, 7, 8, 9, 10, 11] rfl
                              have hD : va_D Z (wX6 qX AX ++ wX1 g (AX 0) AC σC ++ wX1 g (AX 1) AD σD_264 ++ wX3 g (AX 3) AP σP_196 ++ wX2 (AX 4) σN_263 ++ wX5 g (AX 5) AW (.ref qH) σW_1 ++ wX4 g (AX 6) AY σY ++ wX0 g (AX 7) AK σK ℓK ++ wH g qH σH_1) := hD.sub [12, 24, 25, 26, 27, 28, 29, 30, 31, 16, 17, 18, 19, 20, 21, 22, 23, 14, 15, 13, 0, 1, 2, 3, 4, 5, 6, 7, 8, 9, 10, 11] (by decide) rfl
                              obtain rfl : r_262 = r_w := hw.symm
                              refine lv_iload hx hb dL_law_863 (lv_at hl 0 rfl) ?_
                              refine lv_if_eq (tgt := 873) hx hb dL_law_865 (by decide) (fun c_267 => ?_) (fun c_267 => ?_)
                              · first | exact absurd c_267 (by decide) | exact c_267 (by decide)
                              · refine lv_iload hx hb dL_law_868 (lv_at hl 9 rfl) ?_
                                refine lv_goto (tgt := 875) hx hb dL_law_870 (by decide) ?_
                                refine lv_icmp_ne (tgt := 935) hx hb dL_law_875 (by decide) (fun c_268 => ?_) (fun c_268 => ?_)
                                · have hF := q_if_f c_268 hF
                                  refine lv_iconst (v := 0) hx hb dL_law_935 (by decide) ?_
                                  exact absurd hF (by decide)
                                · have hF := q_if_t (by first | exact c_268 | exact Classical.not_not.mp c_268) hF
                                  refine lv_aload_n hx hb dL_law_878 rfl (lv_at hl 4 rfl) ?_
                                  obtain ⟨⟨r_269, σP_270⟩, h_271, hF⟩ := q_cl_s hF
                                  try dsimp only at hF
                                  refine gcV_i (As := []) (rest := []) (ci := 6) (q := (RX6, TX6, 8)) F hK hN hP hD hS hA (m_X6_wipe l g H.size qX AX AP σP_196 r_269 σP_270 h_271) gL_law_X6_wipe kX6_wipe rfl rfl rfl rfl ⟨(Nat.le_of_ble_eq_true rfl), (Nat.le_of_ble_eq_true rfl)⟩ [0, 17, 18] [1, 2, 3, 4, 5, 6, 7, 8, 9, 10, 11, 12, 13, 14, 15, 16, 19, 20, 21, 22, 23, 24, 25, 26, 27, 28, 29, 30, 31] rfl rfl rfl (by decide) rfl rfl rfl rfl rfl hl.1 (Nat.le_of_ble_eq_true rfl) dL_law_879 ⟨(Nat.le_of_ble_eq_true rfl), (Nat.le_of_ble_eq_true rfl)⟩ (fun r_w u_w H locs hw hP hD hS => ?_)
                                  have hP : va_P g.1 vwCl (wX6 qX AX ++ wX1 g (AX 0) AC σC ++ wX1 g (AX 1) AD σD_264 ++ wX3 g (AX 3) AP σP_270 ++ wX2 (AX 4) σN_263 ++ wX5 g (AX 5) AW (.ref qH) σW_1 ++ wX4 g (AX 6) AY σY ++ wX0 g (AX 7) AK σK ℓK ++ wH g qH σH_1) H := hP.sub [29, 0, 1, 2, 3, 4, 5, 6, 7, 8, 9, 10, 11, 12, 13, 14, 15, 30, 31, 16, 17, 18, 19, 20, 21, 22, 23, 24, 25, 26, 27, 28] rfl
                                  have hD : va_D Z (wX6 qX AX ++ wX1 g (AX 0) AC σC ++ wX1 g (AX 1) AD σD_264 ++ wX3 g (AX 3) AP σP_270 ++ wX2 (AX 4) σN_263 ++ wX5 g (AX 5) AW (.ref qH) σW_1 ++ wX4 g (AX 6) AY σY ++ wX0 g (AX 7) AK σK ℓK ++ wH g qH σH_1) := hD.sub [29, 0, 1, 2, 3, 4, 5, 6, 7, 8, 9, 10, 11, 12, 13, 14, 15, 30, 31, 16, 17, 18, 19, 20, 21, 22, 23, 24, 25, 26, 27, 28] (by decide) rfl
                                  obtain rfl : r_269 = r_w := hw.symm
                                  refine lv_iconst (v := 5) hx hb dL_law_882 (by decide) ?_
                                  refine lv_icmp_ne (tgt := 935) hx hb dL_law_883 (by decide) (fun c_273 => ?_) (fun c_273 => ?_)
                                  · have hF := q_if_f c_273 hF
                                    refine lv_iconst (v := 0) hx hb dL_law_935 (by decide) ?_
                                    exact absurd hF (by decide)
                                  · have hF := q_if_t (by first | exact c_273 | exact Classical.not_not.mp c_273) hF
                                    refine lv_aload_n hx hb dL_law_886 rfl (lv_at hl 4 rfl) ?_
                                    refine lv_bipush (v := 10) hx hb dL_law_887 (by decide) ?_
                                    refine lv_iload hx hb dL_law_889 (lv_at hl 2 rfl) ?_
                                    refine lv_imul hx hb dL_law_891 ?_
                                    refine lv_iconst (v := 0) hx hb dL_law_892 (by decide) ?_
                                    obtain ⟨⟨r_274, σW_275, σH_276⟩, h_277, hF⟩ := q_cl_s hF
                                    try dsimp only at hF
                                    refine gcV_i (As := [.int ((10 : Int32) * v13_1), .int 0]) (rest := []) (ci := 6) (q := (RX6, TX6, 8)) F hK hN hP hD hS hA (m_X6_round l g H.size qX AX AW σW_1 qH σH_1 AC σC ((10 : Int32) * v13_1) (0 : Int32) r_274 σW_275 σH_276 h_277) gL_law_X6_round kX6_round rfl rfl rfl rfl ⟨(Nat.le_of_ble_eq_true rfl), (Nat.le_of_ble_eq_true rfl)⟩ [0, 20, 21, 22, 31, 1, 2, 3, 4, 5, 6, 7, 8] [9, 10, 11, 12, 13, 14, 15, 16, 17, 18, 19, 23, 24, 25, 26, 27, 28, 29, 30] rfl rfl rfl (by decide) rfl rfl rfl rfl rfl hl.1 (Nat.le_of_ble_eq_true rfl) dL_law_893 ⟨(Nat.le_of_ble_eq_true rfl), (Nat.le_of_ble_eq_true rfl)⟩ (fun r_w u_w H locs hw hP hD hS => ?_)
                                    have hP : va_P g.1 vwCl (wX6 qX AX ++ wX1 g (AX 0) AC σC ++ wX1 g (AX 1) AD σD_264 ++ wX3 g (AX 3) AP σP_270 ++ wX2 (AX 4) σN_263 ++ wX5 g (AX 5) AW (.ref qH) σW_275 ++ wX4 g (AX 6) AY σY ++ wX0 g (AX 7) AK σK ℓK ++ wH g qH σH_276) H := hP.sub [19, 24, 25, 26, 27, 28, 29, 30, 31, 0, 1, 2, 3, 4, 5, 6, 7, 8, 9, 10, 20, 21, 22, 11, 12, 13, 14, 15, 16, 17, 18, 23] rfl
                                    have hD : va_D Z (wX6 qX AX ++ wX1 g (AX 0) AC σC ++ wX1 g (AX 1) AD σD_264 ++ wX3 g (AX 3) AP σP_270 ++ wX2 (AX 4) σN_263 ++ wX5 g (AX 5) AW (.ref qH) σW_275 ++ wX4 g (AX 6) AY σY ++ wX0 g (AX 7) AK σK ℓK ++ wH g qH σH_276) := hD.sub [19, 24, 25, 26, 27, 28, 29, 30, 31, 0, 1, 2, 3, 4, 5, 6, 7, 8, 9, 10, 20, 21, 22, 11, 12, 13, 14, 15, 16, 17, 18, 23] (by decide) rfl
                                    obtain rfl : r_274 = r_w := hw.symm
                                    refine lv_iload hx hb dL_law_896 (lv_at hl 0 rfl) ?_
                                    refine lv_if_eq (tgt := 905) hx hb dL_law_898 (by decide) (fun c_279 => ?_) (fun c_279 => ?_)
                                    · first | exact absurd c_279 (by decide) | exact c_279 (by decide)
                                    · refine lv_iconst (v := 1) hx hb dL_law_901 (by decide) ?_
                                      refine lv_goto (tgt := 906) hx hb dL_law_902 (by decide) ?_
                                      refine lv_icmp_ne (tgt := 935) hx hb dL_law_906 (by decide) (fun c_280 => ?_) (fun c_280 => ?_)
                                      · have hF := q_if_f c_280 hF
                                        refine lv_iconst (v := 0) hx hb dL_law_935 (by decide) ?_
                                        exact absurd hF (by decide)
                                      · have hF := q_if_t (by first | exact c_280 | exact Classical.not_not.mp c_280) hF
                                        refine lv_aload_n hx hb dL_law_909 rfl (lv_at hl 4 rfl) ?_
                                        refine lv_bipush (v := 10) hx hb dL_law_910 (by decide) ?_
                                        refine lv_iload hx hb dL_law_912 (lv_at hl 2 rfl) ?_
                                        refine lv_imul hx hb dL_law_914 ?_
                                        refine lv_iconst (v := 1) hx hb dL_law_915 (by decide) ?_
                                        obtain ⟨⟨r_281, σW_282, σH_283⟩, h_284, hF⟩ := q_cl_s hF
                                        try dsimp only at hF
                                        refine gcV_i (As := [.int ((10 : Int32) * v13_1), .int 1]) (rest := []) (ci := 6) (q := (RX6, TX6, 8)) F hK hN hP hD hS hA (m_X6_round l g H.size qX AX AW σW_275 qH σH_276 AC σC ((10 : Int32) * v13_1) (1 : Int32) r_281 σW_282 σH_283 h_284) gL_law_X6_round kX6_round rfl rfl rfl rfl ⟨(Nat.le_of_ble_eq_true rfl), (Nat.le_of_ble_eq_true rfl)⟩ [0, 20, 21, 22, 31, 1, 2, 3, 4, 5, 6, 7, 8] [9, 10, 11, 12, 13, 14, 15, 16, 17, 18, 19, 23, 24, 25, 26, 27, 28, 29, 30] rfl rfl rfl (by decide) rfl rfl rfl rfl rfl hl.1 (Nat.le_of_ble_eq_true rfl) dL_law_916 ⟨(Nat.le_of_ble_eq_true rfl), (Nat.le_of_ble_eq_true rfl)⟩ (fun r_w u_w H locs hw hP hD hS => ?_)
                                        have hP : va_P g.1 vwCl (wX6 qX AX ++ wX1 g (AX 0) AC σC ++ wX1 g (AX 1) AD σD_264 ++ wX3 g (AX 3) AP σP_270 ++ wX2 (AX 4) σN_263 ++ wX5 g (AX 5) AW (.ref qH) σW_282 ++ wX4 g (AX 6) AY σY ++ wX0 g (AX 7) AK σK ℓK ++ wH g qH σH_283) H := hP.sub [19, 24, 25, 26, 27, 28, 29, 30, 31, 0, 1, 2, 3, 4, 5, 6, 7, 8, 9, 10, 20, 21, 22, 11, 12, 13, 14, 15, 16, 17, 18, 23] rfl
                                        have hD : va_D Z (wX6 qX AX ++ wX1 g (AX 0) AC σC ++ wX1 g (AX 1) AD σD_264 ++ wX3 g (AX 3) AP σP_270 ++ wX2 (AX 4) σN_263 ++ wX5 g (AX 5) AW (.ref qH) σW_282 ++ wX4 g (AX 6) AY σY ++ wX0 g (AX 7) AK σK ℓK ++ wH g qH σH_283) := hD.sub [19, 24, 25, 26, 27, 28, 29, 30, 31, 0, 1, 2, 3, 4, 5, 6, 7, 8, 9, 10, 20, 21, 22, 11, 12, 13, 14, 15, 16, 17, 18, 23] (by decide) rfl
                                        obtain rfl : r_281 = r_w := hw.symm
                                        refine lv_iload hx hb dL_law_919 (lv_at hl 0 rfl) ?_
                                        refine lv_if_eq (tgt := 931) hx hb dL_law_921 (by decide) (fun c_286 => ?_) (fun c_286 => ?_)
                                        · first | exact absurd c_286 (by decide) | exact c_286 (by decide)
                                        · refine lv_iconst (v := 1) hx hb dL_law_924 (by decide) ?_
                                          refine lv_iload hx hb dL_law_925 (lv_at hl 9 rfl) ?_
                                          refine lv_ishl hx hb dL_law_927 ?_
                                          refine lv_goto (tgt := 932) hx hb dL_law_928 (by decide) ?_
                                          refine lv_icmp_eq (tgt := 937) hx hb dL_law_932 (by decide) (fun c_287 => ?_) (fun c_287 => ?_)
                                          · have hF := q_if_t c_287 hF
                                            refine lv_iinc (v := v13_1 + 1) (lv' := [(13, .int (v13_1 + 1)), (15, .int 1), (14, .int v14_3), (0, .ref b), (1, .ref qX), (2, .int v2), (4, .int v4), (7, .int v7), (9, .int v9), (10, .int v10), (11, .int v11), (12, .int v12)]) hx hb dL_law_937 hl (k := 2) rfl rfl (by decide) rfl (fun ls hl => ?_)
                                            refine lv_goto (tgt := 690) hx hb dL_law_940 (by decide) ?_
                                            exact ag (v13_1 + 1, σD_264, σP_270, σN_263, σW_282, σH_283) hF _ _ _ hP hD hS (lv_sub hl [0, 3, 4, 5, 6, 7, 8, 9, 10, 11] rfl)
                                          · have hF := q_if_f c_287 hF
                                            refine lv_iconst (v := 0) hx hb dL_law_935 (by decide) ?_
                                            exact absurd hF (by decide)
                          · first | exact absurd c_260 (by decide) | exact c_260 (by decide)
