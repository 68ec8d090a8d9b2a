set_option maxHeartbeats 8000000 in
set_option maxRecDepth 100000 in
theorem gs_137 {p : Program} {l : Launch} {e : Env} {s : State} {m : MethodId} {below : List Frame} {meth : Method} {c : Code} {b : Nat} {g : GT} {Z : Nat → Prop} {H : Heap} {locs : List Loc} {ls : Array Slot} {qX : Nat} {AX AC AD AP AW AY AK : Nat → Nat} {L : Nat} {xs : Nat → Int32} {σC : qS} {σD : qS} {σP : qS} {σN : qS} {σW : qS} {σY : qS} {σK : qS} {ℓK : qL} {v2 : Int32} {v3 : Int32} {v4 : Int32} {v5 : Int32} {v6 : Int32} {v7 : Int32} {v8 : Int32}
    (hx : p.tables.exec = Jvm.exec) (hb : c.code = cL_law) (hr : meth.sig.returnType = ret) (hlocks : meth.locks = false) (F : CallFix p m c cL_law 30 s #[Value.ref b] wsL_law RL) (hK : va_K g.1 vwCl (tyL g) s) (hN : NW s) (hA : ∀ q : Nat, s.heap.size ≤ q → Z q) (hZ : Z = fun q => s.heap.size ≤ q) (hbA : ¬ Z b) (hX : va_X b L xs s s.heap) (hbl : b < s.heap.size) (hF : g_137 L xs σC σD σP σN σW σY σK ℓK v2 v3 v4 v5 v6 v7 v8 = some 1)
    (hP : va_P g.1 vwCl (wX6 qX AX ++ wX1 g (AX 0) AC σC ++ wX1 g (AX 1) AD σD ++ wX3 g (AX 3) AP σP ++ wX2 (AX 4) σN ++ wX5 g (AX 5) AW .null σW ++ wX4 g (AX 6) AY σY ++ wX0 g (AX 7) AK σK ℓK) H) (hD : va_D Z (wX6 qX AX ++ wX1 g (AX 0) AC σC ++ wX1 g (AX 1) AD σD ++ wX3 g (AX 3) AP σP ++ wX2 (AX 4) σN ++ wX5 g (AX 5) AW .null σW ++ wX4 g (AX 6) AY σY ++ wX0 g (AX 7) AK σK ℓK)) (hS : va_S Z s.heap H locs) (hl : lv_has ls 30 [(0, .ref b), (1, .ref qX), (2, .int v2), (3, .int v3), (4, .int v4), (5, .int v5), (6, .int v6), (7, .int v7), (8, .int v8)]) : W p l e room_1 s m #[Value.ref b] below meth c H locs 100 20000 (lw_Z below #[Value.ref b] s) (F0 m 137 ls []) := by
  have hts := F.2.2.2.2
  have hown : s.vm.findClass RL = some m.cls := F.2.2.2.1
  dsimp only [g_137] at hF
  refine lv_iconst (v := 0) hx hb dL_law_137 (by decide) ?_
  refine lv_istore (lv' := [(9, .int 0), (0, .ref b), (1, .ref qX), (2, .int v2), (3, .int v3), (4, .int v4), (5, .int v5), (6, .int v6), (7, .int v7), (8, .int v8)]) hx hb dL_law_138 hl (by decide) rfl (fun ls hl => ?_)
  refine q_loop (fun u0 => wX6 qX AX ++ wX1 g (AX 0) AC σC ++ wX1 g (AX 1) AD u0.2.2.2.2.1 ++ wX3 g (AX 3) AP u0.2.2.2.2.2.1 ++ wX2 (AX 4) u0.2.2.2.2.2.2.1 ++ wX5 g (AX 5) AW .null σW ++ wX4 g (AX 6) AY σY ++ wX0 g (AX 7) AK σK ℓK) (fun u0 => [(9, .int u0.1), (0, .ref b), (1, .ref qX), (2, .int v2), (3, .int v3), (4, .int v4), (5, .int u0.2.1), (6, .int u0.2.2.1), (7, .int u0.2.2.2.2.2.2.2), (8, .int u0.2.2.2.1)]) 321 hF ?_ ?_ hP hD hS (lv_sub hl [0, 1, 2, 3, 4, 5, 6, 7, 8, 9] rfl)
  · rintro ⟨v9_1, v5_1, v6_1, v8_1, σD_1, σP_1, σN_1, v7_1⟩ hF H locs ls hP hD hS hl
    try dsimp only at hF
    have hP : va_P g.1 vwCl (wX6 qX AX ++ wX1 g (AX 0) AC σC ++ wX1 g (AX 1) AD σD_1 ++ wX3 g (AX 3) AP σP_1 ++ wX2 (AX 4) σN_1 ++ wX5 g (AX 5) AW .null σW ++ wX4 g (AX 6) AY σY ++ wX0 g (AX 7) AK σK ℓK) H := hP
    have hD : va_D Z (wX6 qX AX ++ wX1 g (AX 0) AC σC ++ wX1 g (AX 1) AD σD_1 ++ wX3 g (AX 3) AP σP_1 ++ wX2 (AX 4) σN_1 ++ wX5 g (AX 5) AW .null σW ++ wX4 g (AX 6) AY σY ++ wX0 g (AX 7) AK σK ℓK) := hD
    have hl : lv_has ls 30 [(9, .int v9_1), (0, .ref b), (1, .ref qX), (2, .int v2), (3, .int v3), (4, .int v4), (5, .int v5_1), (6, .int v6_1), (7, .int v7_1), (8, .int v8_1)] := hl
    exact gs_321 hx hb hr hlocks F hK hN hA hZ hbA hX hbl hF hP hD hS (lv_sub hl [1, 2, 3, 4, 5, 6, 7, 8, 9] rfl)
  · rintro k again kk ag ⟨v9_1, v5_1, v6_1, v8_1, σD_1, σP_1, σN_1, v7_1⟩ hF H locs ls hP hD hS hl
    dsimp only [b_L_law_140] at hF
    have hP : va_P g.1 vwCl (wX6 qX AX ++ wX1 g (AX 0) AC σC ++ wX1 g (AX 1) AD σD_1 ++ wX3 g (AX 3) AP σP_1 ++ wX2 (AX 4) σN_1 ++ wX5 g (AX 5) AW .null σW ++ wX4 g (AX 6) AY σY ++ wX0 g (AX 7) AK σK ℓK) H := hP
    have hD : va_D Z (wX6 qX AX ++ wX1 g (AX 0) AC σC ++ wX1 g (AX 1) AD σD_1 ++ wX3 g (AX 3) AP σP_1 ++ wX2 (AX 4) σN_1 ++ wX5 g (AX 5) AW .null σW ++ wX4 g (AX 6) AY σY ++ wX0 g (AX 7) AK σK ℓK) := hD
    have hl : lv_has ls 30 [(9, .int v9_1), (0, .ref b), (1, .ref qX), (2, .int v2), (3, .int v3), (4, .int v4), (5, .int v5_1), (6, .int v6_1), (7, .int v7_1), (8, .int v8_1)] := hl
    refine lv_iload hx hb dL_law_140 (lv_at hl 0 rfl) ?_
    refine lv_bipush (v := 10) hx hb dL_law_142 (by decide) ?_
    refine lv_icmp_ge (tgt := 321) hx hb dL_law_144 (by decide) (fun c_2 => ?_) (fun c_2 => ?_)
    · have hF := q_if_t c_2 hF
      exact kk (v9_1, v5_1, v6_1, v8_1, σD_1, σP_1, σN_1, v7_1) hF _ _ _ hP hD hS (lv_sub hl [0, 1, 2, 3, 4, 5, 6, 7, 8, 9] rfl)
    · have hF := q_if_f c_2 hF
      refine lv_iload hx hb dL_law_147 (lv_at hl 7 rfl) ?_
      refine lv_iload_n hx hb dL_law_149 rfl (lv_at hl 3 rfl) ?_
      refine lv_icmp_le (tgt := 160) hx hb dL_law_150 (by decide) (fun c_3 => ?_) (fun c_3 => ?_)
      · have hF := q_if_t c_3 hF
        refine lv_iconst (v := 0) hx hb dL_law_160 (by decide) ?_
        refine lv_istore (lv' := [(6, .int 0), (9, .int v9_1), (0, .ref b), (1, .ref qX), (2, .int v2), (3, .int v3), (4, .int v4), (5, .int v5_1), (7, .int v7_1), (8, .int v8_1)]) hx hb dL_law_161 hl (by decide) rfl (fun ls hl => ?_)
        refine lv_iinc (v := v5_1 + 1) (lv' := [(5, .int (v5_1 + 1)), (6, .int 0), (9, .int v9_1), (0, .ref b), (1, .ref qX), (2, .int v2), (3, .int v3), (4, .int v4), (7, .int v7_1), (8, .int v8_1)]) hx hb dL_law_163 hl (k := 7) rfl rfl (by decide) rfl (fun ls hl => ?_)
        refine lv_iinc (v := v8_1 + 1) (lv' := [(8, .int (v8_1 + 1)), (5, .int (v5_1 + 1)), (6, .int 0), (9, .int v9_1), (0, .ref b), (1, .ref qX), (2, .int v2), (3, .int v3), (4, .int v4), (7, .int v7_1)]) hx hb dL_law_166 hl (k := 9) rfl rfl (by decide) rfl (fun ls hl => ?_)
        refine lv_aload_n hx hb dL_law_169 rfl (lv_at hl 5 rfl) ?_
        refine lv_bipush (v := 65) hx hb dL_law_170 (by decide) ?_
        refine lv_iload hx hb dL_law_172 (lv_at hl 3 rfl) ?_
        refine lv_iadd hx hb dL_law_174 ?_
        obtain ⟨⟨r_4, σP_5⟩, h_6, hF⟩ := q_cl_s hF
        try dsimp only at hF
        refine gcV_i (As := [.int ((65 : Int32) + v9_1)]) (rest := []) (ci := 6) (q := (RX6, TX6, 8)) F hK hN hP hD hS hA (m_X6_say l g H.size qX AX AP σP_1 ((65 : Int32) + v9_1) r_4 σP_5 h_6) gL_law_X6_say kX6_say rfl rfl rfl rfl ⟨(Nat.le_of_ble_eq_true rfl), (Nat.le_of_ble_eq_true rfl)⟩ [0, 17, 18] [1, 2, 3, 4, 5, 6, 7, 8, 9, 10, 11, 12, 13, 14, 15, 16, 19, 20, 21, 22, 23, 24, 25, 26, 27, 28, 29, 30] rfl rfl rfl (by decide) rfl rfl rfl rfl rfl hl.1 (Nat.le_of_ble_eq_true rfl) dL_law_175 ⟨(Nat.le_of_ble_eq_true rfl), (Nat.le_of_ble_eq_true rfl)⟩ (fun r_w u_w H locs hw hP hD hS => ?_)
        have hP : va_P g.1 vwCl (wX6 qX AX ++ wX1 g (AX 0) AC σC ++ wX1 g (AX 1) AD σD_1 ++ wX3 g (AX 3) AP σP_5 ++ wX2 (AX 4) σN_1 ++ wX5 g (AX 5) AW .null σW ++ wX4 g (AX 6) AY σY ++ wX0 g (AX 7) AK σK ℓK) H := hP.sub [28, 0, 1, 2, 3, 4, 5, 6, 7, 8, 9, 10, 11, 12, 13, 14, 15, 29, 30, 16, 17, 18, 19, 20, 21, 22, 23, 24, 25, 26, 27] rfl
        have hD : va_D Z (wX6 qX AX ++ wX1 g (AX 0) AC σC ++ wX1 g (AX 1) AD σD_1 ++ wX3 g (AX 3) AP σP_5 ++ wX2 (AX 4) σN_1 ++ wX5 g (AX 5) AW .null σW ++ wX4 g (AX 6) AY σY ++ wX0 g (AX 7) AK σK ℓK) := hD.sub [28, 0, 1, 2, 3, 4, 5, 6, 7, 8, 9, 10, 11, 12, 13, 14, 15, 29, 30, 16, 17, 18, 19, 20, 21, 22, 23, 24, 25, 26, 27] (by decide) rfl
        obtain rfl : r_4 = r_w := hw.symm
        refine lv_iload hx hb dL_law_178 (lv_at hl 1 rfl) ?_
        refine lv_icmp_ne (tgt := 203) hx hb dL_law_180 (by decide) (fun c_8 => ?_) (fun c_8 => ?_)
        · have hF := q_if_f c_8 hF
          refine lv_iconst (v := 0) hx hb dL_law_203 (by decide) ?_
          exact absurd hF (by decide)
        · have hF := q_if_t (by first | exact c_8 | exact Classical.not_not.mp c_8) hF
          refine lv_aload_n hx hb dL_law_183 rfl (lv_at hl 5 rfl) ?_
          refine lv_iconst (v := 0) hx hb dL_law_184 (by decide) ?_
          obtain ⟨⟨r_9, σN_10, σD_11⟩, h_12, hF⟩ := q_cl_s hF
          try dsimp only at hF
          refine gcV_i (As := [.int 0]) (rest := []) (ci := 6) (q := (RX6, TX6, 8)) F hK hN hP hD hS hA (m_X6_pan l g H.size qX AX σN_1 AP σP_5 AD σD_1 AC σC (0 : Int32) r_9 σN_10 σD_11 h_12) gL_law_X6_pan kX6_pan rfl rfl rfl rfl ⟨(Nat.le_of_ble_eq_true rfl), (Nat.le_of_ble_eq_true rfl)⟩ [0, 19, 17, 18, 9, 10, 11, 12, 13, 14, 15, 16, 1, 2, 3, 4, 5, 6, 7, 8] [20, 21, 22, 23, 24, 25, 26, 27, 28, 29, 30] rfl rfl rfl (by decide) rfl rfl rfl rfl rfl hl.1 (Nat.le_of_ble_eq_true rfl) dL_law_185 ⟨(Nat.le_of_ble_eq_true rfl), (Nat.le_of_ble_eq_true rfl)⟩ (fun r_w u_w H locs hw hP hD hS => ?_)
          have hP : va_P g.1 vwCl (wX6 qX AX ++ wX1 g (AX 0) AC σC ++ wX1 g (AX 1) AD σD_11 ++ wX3 g (AX 3) AP σP_5 ++ wX2 (AX 4) σN_10 ++ wX5 g (AX 5) AW .null σW ++ wX4 g (AX 6) AY σY ++ wX0 g (AX 7) AK σK ℓK) H := hP.sub [11, 23, 24, 25, 26, 27, 28, 29, 30, 15, 16, 17, 18, 19, 20, 21, 22, 13, 14, 12, 0, 1, 2, 3, 4, 5, 6, 7, 8, 9, 10] rfl
          have hD : va_D Z (wX6 qX AX ++ wX1 g (AX 0) AC σC ++ wX1 g (AX 1) AD σD_11 ++ wX3 g (AX 3) AP σP_5 ++ wX2 (AX 4) σN_10 ++ wX5 g (AX 5) AW .null σW ++ wX4 g (AX 6) AY σY ++ wX0 g (AX 7) AK σK ℓK) := hD.sub [11, 23, 24, 25, 26, 27, 28, 29, 30, 15, 16, 17, 18, 19, 20, 21, 22, 13, 14, 12, 0, 1, 2, 3, 4, 5, 6, 7, 8, 9, 10] (by decide) rfl
          obtain rfl : r_9 = r_w := hw.symm
          refine lv_iload hx hb dL_law_188 (lv_at hl 3 rfl) ?_
          refine lv_icmp_ne (tgt := 203) hx hb dL_law_190 (by decide) (fun c_14 => ?_) (fun c_14 => ?_)
          · have hF := q_if_f c_14 hF
            refine lv_iconst (v := 0) hx hb dL_law_203 (by decide) ?_
            exact absurd hF (by decide)
          · have hF := q_if_t (by first | exact c_14 | exact Classical.not_not.mp c_14) hF
            refine lv_aload_n hx hb dL_law_193 rfl (lv_at hl 5 rfl) ?_
            refine lv_iconst (v := 1) hx hb dL_law_194 (by decide) ?_
            obtain ⟨⟨r_15, σN_16, σD_17⟩, h_18, hF⟩ := q_cl_s hF
            try dsimp only at hF
            refine gcV_i (As := [.int 1]) (rest := []) (ci := 6) (q := (RX6, TX6, 8)) F hK hN hP hD hS hA (m_X6_pan l g H.size qX AX σN_10 AP σP_5 AD σD_11 AC σC (1 : Int32) r_15 σN_16 σD_17 h_18) gL_law_X6_pan kX6_pan rfl rfl rfl rfl ⟨(Nat.le_of_ble_eq_true rfl), (Nat.le_of_ble_eq_true rfl)⟩ [0, 19, 17, 18, 9, 10, 11, 12, 13, 14, 15, 16, 1, 2, 3, 4, 5, 6, 7, 8] [20, 21, 22, 23, 24, 25, 26, 27, 28, 29, 30] rfl rfl rfl (by decide) rfl rfl rfl rfl rfl hl.1 (Nat.le_of_ble_eq_true rfl) dL_law_195 ⟨(Nat.le_of_ble_eq_true rfl), (Nat.le_of_ble_eq_true rfl)⟩ (fun r_w u_w H locs hw hP hD hS => ?_)
            have hP : va_P g.1 vwCl (wX6 qX AX ++ wX1 g (AX 0) AC σC ++ wX1 g (AX 1) AD σD_17 ++ wX3 g (AX 3) AP σP_5 ++ wX2 (AX 4) σN_16 ++ wX5 g (AX 5) AW .null σW ++ wX4 g (AX 6) AY σY ++ wX0 g (AX 7) AK σK ℓK) H := hP.sub [11, 23, 24, 25, 26, 27, 28, 29, 30, 15, 16, 17, 18, 19, 20, 21, 22, 13, 14, 12, 0, 1, 2, 3, 4, 5, 6, 7, 8, 9, 10] rfl
            have hD : va_D Z (wX6 qX AX ++ wX1 g (AX 0) AC σC ++ wX1 g (AX 1) AD σD_17 ++ wX3 g (AX 3) AP σP_5 ++ wX2 (AX 4) σN_16 ++ wX5 g (AX 5) AW .null σW ++ wX4 g (AX 6) AY σY ++ wX0 g (AX 7) AK σK ℓK) := hD.sub [11, 23, 24, 25, 26, 27, 28, 29, 30, 15, 16, 17, 18, 19, 20, 21, 22, 13, 14, 12, 0, 1, 2, 3, 4, 5, 6, 7, 8, 9, 10] (by decide) rfl
            obtain rfl : r_15 = r_w := hw.symm
            refine lv_iload hx hb dL_law_198 (lv_at hl 2 rfl) ?_
            refine lv_icmp_eq (tgt := 205) hx hb dL_law_200 (by decide) (fun c_20 => ?_) (fun c_20 => ?_)
            · have hF := q_if_t c_20 hF
              refine lv_iload hx hb dL_law_205 (lv_at hl 2 rfl) ?_
              refine lv_if_le (tgt := 315) hx hb dL_law_207 (by decide) (fun c_21 => ?_) (fun c_21 => ?_)
              · refine lv_iinc (v := v9_1 + 1) (lv' := [(9, .int (v9_1 + 1)), (8, .int (v8_1 + 1)), (5, .int (v5_1 + 1)), (6, .int 0), (0, .ref b), (1, .ref qX), (2, .int v2), (3, .int v3), (4, .int v4), (7, .int v7_1)]) hx hb dL_law_315 hl (k := 3) rfl rfl (by decide) rfl (fun ls hl => ?_)
                refine lv_goto (tgt := 140) hx hb dL_law_318 (by decide) ?_
                exact ag (v9_1 + 1, v5_1 + 1, (0 : Int32), v8_1 + 1, σD_17, σP_5, σN_16, v7_1) hF _ _ _ hP hD hS (lv_sub hl [0, 4, 5, 6, 7, 8, 2, 3, 9, 1] rfl)
              · first | exact absurd c_21 (by decide) | exact c_21 (by decide)
            · have hF := q_if_f c_20 hF
              refine lv_iconst (v := 0) hx hb dL_law_203 (by decide) ?_
              exact absurd hF (by decide)
      · have hF := q_if_f c_3 hF
        refine lv_iload hx hb dL_law_153 (lv_at hl 7 rfl) ?_
        refine lv_iload_n hx hb dL_law_155 rfl (lv_at hl 3 rfl) ?_
        refine lv_isub hx hb dL_law_156 ?_
        refine lv_goto (tgt := 161) hx hb dL_law_157 (by decide) ?_
        obtain ⟨v6_22, e_23, hF⟩ := q_bd_s hF
        refine gtop e_23 ?_
        refine lv_istore (lv' := [(6, .int v6_22), (9, .int v9_1), (0, .ref b), (1, .ref qX), (2, .int v2), (3, .int v3), (4, .int v4), (5, .int v5_1), (7, .int v7_1), (8, .int v8_1)]) hx hb dL_law_161 hl (by decide) rfl (fun ls hl => ?_)
        refine lv_iinc (v := v5_1 + 1) (lv' := [(5, .int (v5_1 + 1)), (6, .int v6_22), (9, .int v9_1), (0, .ref b), (1, .ref qX), (2, .int v2), (3, .int v3), (4, .int v4), (7, .int v7_1), (8, .int v8_1)]) hx hb dL_law_163 hl (k := 7) rfl rfl (by decide) rfl (fun ls hl => ?_)
        refine lv_iinc (v := v8_1 + 1) (lv' := [(8, .int (v8_1 + 1)), (5, .int (v5_1 + 1)), (6, .int v6_22), (9, .int v9_1), (0, .ref b), (1, .ref qX), (2, .int v2), (3, .int v3), (4, .int v4), (7, .int v7_1)]) hx hb dL_law_166 hl (k := 9) rfl rfl (by decide) rfl (fun ls hl => ?_)
        refine lv_aload_n hx hb dL_law_169 rfl (lv_at hl 5 rfl) ?_
        refine lv_bipush (v := 65) hx hb dL_law_170 (by decide) ?_
        refine lv_iload hx hb dL_law_172 (lv_at hl 3 rfl) ?_
        refine lv_iadd hx hb dL_law_174 ?_
        obtain ⟨⟨r_24, σP_25⟩, h_26, hF⟩ := q_cl_s hF
        try dsimp only at hF
        refine gcV_i (As := [.int ((65 : Int32) + v9_1)]) (rest := []) (ci := 6) (q := (RX6, TX6, 8)) F hK hN hP hD hS hA (m_X6_say l g H.size qX AX AP σP_1 ((65 : Int32) + v9_1) r_24 σP_25 h_26) gL_law_X6_say kX6_say rfl rfl rfl rfl ⟨(Nat.le_of_ble_eq_true rfl), (Nat.le_of_ble_eq_true rfl)⟩ [0, 17, 18] [1, 2, 3, 4, 5, 6, 7, 8, 9, 10, 11, 12, 13, 14, 15, 16, 19, 20, 21, 22, 23, 24, 25, 26, 27, 28, 29, 30] rfl rfl rfl (by decide) rfl rfl rfl rfl rfl hl.1 (Nat.le_of_ble_eq_true rfl) dL_law_175 ⟨(Nat.le_of_ble_eq_true rfl), (Nat.le_of_ble_eq_true rfl)⟩ (fun r_w u_w H locs hw hP hD hS => ?_)
        have hP : va_P g.1 vwCl (wX6 qX AX ++ wX1 g (AX 0) AC σC ++ wX1 g (AX 1) AD σD_1 ++ wX3 g (AX 3) AP σP_25 ++ wX2 (AX 4) σN_1 ++ wX5 g (AX 5) AW .null σW ++ wX4 g (AX 6) AY σY ++ wX0 g (AX 7) AK σK ℓK) H := hP.sub [28, 0, 1, 2, 3, 4, 5, 6, 7, 8, 9, 10, 11, 12, 13, 14, 15, 29, 30, 16, 17, 18, 19, 20, 21, 22, 23, 24, 25, 26, 27] rfl
        have hD : va_D Z (wX6 qX AX ++ wX1 g (AX 0) AC σC ++ wX1 g (AX 1) AD σD_1 ++ wX3 g (AX 3) AP σP_25 ++ wX2 (AX 4) σN_1 ++ wX5 g (AX 5) AW .null σW ++ wX4 g (AX 6) AY σY ++ wX0 g (AX 7) AK σK ℓK) := hD.sub [28, 0, 1, 2, 3, 4, 5, 6, 7, 8, 9, 10, 11, 12, 13, 14, 15, 29, 30, 16, 17, 18, 19, 20, 21, 22, 23, 24, 25, 26, 27] (by decide) rfl
        obtain rfl : r_24 = r_w := hw.symm
        refine lv_iload hx hb dL_law_178 (lv_at hl 1 rfl) ?_
        refine lv_icmp_ne (tgt := 203) hx hb dL_law_180 (by decide) (fun c_28 => ?_) (fun c_28 => ?_)
        · have hF := q_if_f c_28 hF
          refine lv_iconst (v := 0) hx hb dL_law_203 (by decide) ?_
          exact absurd hF (by decide)
        · have hF := q_if_t (by first | exact c_28 | exact Classical.not_not.mp c_28) hF
          refine lv_aload_n hx hb dL_law_183 rfl (lv_at hl 5 rfl) ?_
          refine lv_iconst (v := 0) hx hb dL_law_184 (by decide) ?_
          obtain ⟨⟨r_29, σN_30, σD_31⟩, h_32, hF⟩ := q_cl_s hF
          try dsimp only at hF
          refine gcV_i (As := [.int 0]) (rest := []) (ci := 6) (q := (RX6, TX6, 8)) F hK hN hP hD hS hA (m_X6_pan l g H.size qX AX σN_1 AP σP_25 AD σD_1 AC σC (0 : Int32) r_29 σN_30 σD_31 h_32) gL_law_X6_pan kX6_pan rfl rfl rfl rfl ⟨(Nat.le_of_ble_eq_true rfl), (Nat.le_of_ble_eq_true rfl)⟩ [0, 19, 17, 18, 9, 10, 11, 12, 13, 14, 15, 16, 1, 2, 3, 4, 5, 6, 7, 8] [20, 21, 22, 23, 24, 25, 26, 27, 28, 29, 30] rfl rfl rfl (by decide) rfl rfl rfl rfl rfl hl.1 (Nat.le_of_ble_eq_true rfl) dL_law_185 ⟨(Nat.le_of_ble_eq_true rfl), (Nat.le_of_ble_eq_true rfl)⟩ (fun r_w u_w H locs hw hP hD hS => ?_)
          have hP : va_P g.1 vwCl (wX6 qX AX ++ wX1 g (AX 0) AC σC ++ wX1 g (AX 1) AD σD_31 ++ wX3 g (AX 3) AP σP_25 ++ wX2 (AX 4) σN_30 ++ wX5 g (AX 5) AW .null σW ++ wX4 g (AX 6) AY σY ++ wX0 g (AX 7) AK σK ℓK) H := hP.sub [11, 23, 24, 25, 26, 27, 28, 29, 30, 15, 16, 17, 18, 19, 20, 21, 22, 13, 14, 12, 0, 1, 2, 3, 4, 5, 6, 7, 8, 9, 10] rfl
          have hD : va_D Z (wX6 qX AX ++ wX1 g (AX 0) AC σC ++ wX1 g (AX 1) AD σD_31 ++ wX3 g (AX 3) AP σP_25 ++ wX2 (AX 4) σN_30 ++ wX5 g (AX 5) AW .null σW ++ wX4 g (AX 6) AY σY ++ wX0 g (AX 7) AK σK ℓK) := hD.sub [11, 23, 24, 25, 26, 27, 28, 29, 30, 15, 16, 17, 18, 19, 20, 21, 22, 13, 14, 12, 0, 1, 2, 3, 4, 5, 6, 7, 8, 9, 10] (by decide) rfl
          obtain rfl : r_29 = r_w := hw.symm
          refine lv_iload hx hb dL_law_188 (lv_at hl 3 rfl) ?_
          refine lv_icmp_ne (tgt := 203) hx hb dL_law_190 (by decide) (fun c_34 => ?_) (fun c_34 => ?_)
          · have hF := q_if_f c_34 hF
            refine lv_iconst (v := 0) hx hb dL_law_203 (by decide) ?_
            exact absurd hF (by decide)
          · have hF := q_if_t (by first | exact c_34 | exact Classical.not_not.mp c_34) hF
            refine lv_aload_n hx hb dL_law_193 rfl (lv_at hl 5 rfl) ?_
            refine lv_iconst (v := 1) hx hb dL_law_194 (by decide) ?_
            obtain ⟨⟨r_35, σN_36, σD_37⟩, h_38, hF⟩ := q_cl_s hF
            try dsimp only at hF
            refine gcV_i (As := [.int 1]) (rest := []) (ci := 6) (q := (RX6, TX6, 8)) F hK hN hP hD hS hA (m_X6_pan l g H.size qX AX σN_30 AP σP_25 AD σD_31 AC σC (1 : Int32) r_35 σN_36 σD_37 h_38) gL_law_X6_pan kX6_pan rfl rfl rfl rfl ⟨(Nat.le_of_ble_eq_true rfl), (Nat.le_of_ble_eq_true rfl)⟩ [0, 19, 17, 18, 9, 10, 11, 12, 13, 14, 15, 16, 1, 2, 3, 4, 5, 6, 7, 8] [20, 21, 22, 23, 24, 25, 26, 27, 28, 29, 30] rfl rfl rfl (by decide) rfl rfl rfl rfl rfl hl.1 (Nat.le_of_ble_eq_true rfl) dL_law_195 ⟨(Nat.le_of_ble_eq_true rfl), (Nat.le_of_ble_eq_true rfl)⟩ (fun r_w u_w H locs hw hP hD hS => ?_)
            have hP : va_P g.1 vwCl (wX6 qX AX ++ wX1 g (AX 0) AC σC ++ wX1 g (AX 1) AD σD_37 ++ wX3 g (AX 3) AP σP_25 ++ wX2 (AX 4) σN_36 ++ wX5 g (AX 5) AW .null σW ++ wX4 g (AX 6) AY σY ++ wX0 g (AX 7) AK σK ℓK) H := hP.sub [11, 23, 24, 25, 26, 27, 28, 29, 30, 15, 16, 17, 18, 19, 20, 21, 22, 13, 14, 12, 0, 1, 2, 3, 4, 5, 6, 7, 8, 9, 10] rfl
            have hD : va_D Z (wX6 qX AX ++ wX1 g (AX 0) AC σC ++ wX1 g (AX 1) AD σD_37 ++ wX3 g (AX 3) AP σP_25 ++ wX2 (AX 4) σN_36 ++ wX5 g (AX 5) AW .null σW ++ wX4 g (AX 6) AY σY ++ wX0 g (AX 7) AK σK ℓK) := hD.sub [11, 23, 24, 25, 26, 27, 28, 29, 30, 15, 16, 17, 18, 19, 20, 21, 22, 13, 14, 12, 0, 1, 2, 3, 4, 5, 6, 7, 8, 9, 10] (by decide) rfl
            obtain rfl : r_35 = r_w := hw.symm
            refine lv_iload hx hb dL_law_198 (lv_at hl 2 rfl) ?_
            refine lv_icmp_eq (tgt := 205) hx hb dL_law_200 (by decide) (fun c_40 => ?_) (fun c_40 => ?_)
            · have hF := q_if_t c_40 hF
              refine lv_iload hx hb dL_law_205 (lv_at hl 2 rfl) ?_
              refine lv_if_le (tgt := 315) hx hb dL_law_207 (by decide) (fun c_41 => ?_) (fun c_41 => ?_)
              · have hF := q_if_t c_41 hF
                refine lv_iinc (v := v9_1 + 1) (lv' := [(9, .int (v9_1 + 1)), (8, .int (v8_1 + 1)), (5, .int (v5_1 + 1)), (6, .int v6_22), (0, .ref b), (1, .ref qX), (2, .int v2), (3, .int v3), (4, .int v4), (7, .int v7_1)]) hx hb dL_law_315 hl (k := 3) rfl rfl (by decide) rfl (fun ls hl => ?_)
                refine lv_goto (tgt := 140) hx hb dL_law_318 (by decide) ?_
                exact ag (v9_1 + 1, v5_1 + 1, v6_22, v8_1 + 1, σD_37, σP_25, σN_36, v7_1) hF _ _ _ hP hD hS (lv_sub hl [0, 4, 5, 6, 7, 8, 2, 3, 9, 1] rfl)
              · have hF := q_if_f c_41 hF
                refine lv_iinc (v := (v5_1 + 1) + 1) (lv' := [(5, .int ((v5_1 + 1) + 1)), (8, .int (v8_1 + 1)), (6, .int v6_22), (9, .int v9_1), (0, .ref b), (1, .ref qX), (2, .int v2), (3, .int v3), (4, .int v4), (7, .int v7_1)]) hx hb dL_law_210 hl (k := 1) rfl rfl (by decide) rfl (fun ls hl => ?_)
                refine lv_iinc (v := (v8_1 + 1) + 1) (lv' := [(8, .int ((v8_1 + 1) + 1)), (5, .int ((v5_1 + 1) + 1)), (6, .int v6_22), (9, .int v9_1), (0, .ref b), (1, .ref qX), (2, .int v2), (3, .int v3), (4, .int v4), (7, .int v7_1)]) hx hb dL_law_213 hl (k := 1) rfl rfl (by decide) rfl (fun ls hl => ?_)
                refine lv_iload hx hb dL_law_216 (lv_at hl 9 rfl) ?_
                refine lv_iconst (v := 1) hx hb dL_law_218 (by decide) ?_
                refine lv_iload hx hb dL_law_219 (lv_at hl 3 rfl) ?_
                refine lv_ishl hx hb dL_law_221 ?_
                refine lv_ior hx hb dL_law_222 ?_
                obtain ⟨v7_42, e_43, hF⟩ := q_bd_s hF
                refine gtop e_43 ?_
                refine lv_istore (lv' := [(7, .int v7_42), (8, .int ((v8_1 + 1) + 1)), (5, .int ((v5_1 + 1) + 1)), (6, .int v6_22), (9, .int v9_1), (0, .ref b), (1, .ref qX), (2, .int v2), (3, .int v3), (4, .int v4)]) hx hb dL_law_223 hl (by decide) rfl (fun ls hl => ?_)
                refine lv_iload hx hb dL_law_225 (lv_at hl 3 rfl) ?_
                refine lv_iconst (v := 5) hx hb dL_law_227 (by decide) ?_
                refine lv_icmp_le (tgt := 238) hx hb dL_law_228 (by decide) (fun c_44 => ?_) (fun c_44 => ?_)
                · have hF := q_if_t c_44 hF
                  refine lv_iconst (v := 0) hx hb dL_law_238 (by decide) ?_
                  refine lv_istore (lv' := [(6, .int 0), (7, .int v7_42), (8, .int ((v8_1 + 1) + 1)), (5, .int ((v5_1 + 1) + 1)), (9, .int v9_1), (0, .ref b), (1, .ref qX), (2, .int v2), (3, .int v3), (4, .int v4)]) hx hb dL_law_239 hl (by decide) rfl (fun ls hl => ?_)
                  refine lv_aload_n hx hb dL_law_241 rfl (lv_at hl 6 rfl) ?_
                  refine lv_bipush (v := 42) hx hb dL_law_242 (by decide) ?_
                  obtain ⟨⟨r_45, σP_46⟩, h_47, hF⟩ := q_cl_s hF
                  try dsimp only at hF
                  refine gcV_i (As := [.int 42]) (rest := []) (ci := 6) (q := (RX6, TX6, 8)) F hK hN hP hD hS hA (m_X6_say l g H.size qX AX AP σP_25 (42 : Int32) r_45 σP_46 h_47) gL_law_X6_say kX6_say rfl rfl rfl rfl ⟨(Nat.le_of_ble_eq_true rfl), (Nat.le_of_ble_eq_true rfl)⟩ [0, 17, 18] [1, 2, 3, 4, 5, 6, 7, 8, 9, 10, 11, 12, 13, 14, 15, 16, 19, 20, 21, 22, 23, 24, 25, 26, 27, 28, 29, 30] rfl rfl rfl (by decide) rfl rfl rfl rfl rfl hl.1 (Nat.le_of_ble_eq_true rfl) dL_law_244 ⟨(Nat.le_of_ble_eq_true rfl), (Nat.le_of_ble_eq_true rfl)⟩ (fun r_w u_w H locs hw hP hD hS => ?_)
                  have hP : va_P g.1 vwCl (wX6 qX AX ++ wX1 g (AX 0) AC σC ++ wX1 g (AX 1) AD σD_37 ++ wX3 g (AX 3) AP σP_46 ++ wX2 (AX 4) σN_36 ++ wX5 g (AX 5) AW .null σW ++ wX4 g (AX 6) AY σY ++ wX0 g (AX 7) AK σK ℓK) H := hP.sub [28, 0, 1, 2, 3, 4, 5, 6, 7, 8, 9, 10, 11, 12, 13, 14, 15, 29, 30, 16, 17, 18, 19, 20, 21, 22, 23, 24, 25, 26, 27] rfl
                  have hD : va_D Z (wX6 qX AX ++ wX1 g (AX 0) AC σC ++ wX1 g (AX 1) AD σD_37 ++ wX3 g (AX 3) AP σP_46 ++ wX2 (AX 4) σN_36 ++ wX5 g (AX 5) AW .null σW ++ wX4 g (AX 6) AY σY ++ wX0 g (AX 7) AK σK ℓK) := hD.sub [28, 0, 1, 2, 3, 4, 5, 6, 7, 8, 9, 10, 11, 12, 13, 14, 15, 29, 30, 16, 17, 18, 19, 20, 21, 22, 23, 24, 25, 26, 27] (by decide) rfl
                  obtain rfl : r_45 = r_w := hw.symm
                  refine lv_iload hx hb dL_law_247 (lv_at hl 3 rfl) ?_
                  refine lv_icmp_ne (tgt := 313) hx hb dL_law_249 (by decide) (fun c_49 => ?_) (fun c_49 => ?_)
                  · have hF := q_if_f c_49 hF
                    refine lv_iconst (v := 0) hx hb dL_law_313 (by decide) ?_
                    exact absurd hF (by decide)
                  · have hF := q_if_t (by first | exact c_49 | exact Classical.not_not.mp c_49) hF
                    refine lv_aload_n hx hb dL_law_252 rfl (lv_at hl 6 rfl) ?_
                    refine lv_iconst (v := 1) hx hb dL_law_253 (by decide) ?_
                    obtain ⟨⟨r_50, σN_51, σD_52⟩, h_53, hF⟩ := q_cl_s hF
                    try dsimp only at hF
                    refine gcV_i (As := [.int 1]) (rest := []) (ci := 6) (q := (RX6, TX6, 8)) F hK hN hP hD hS hA (m_X6_pan l g H.size qX AX σN_36 AP σP_46 AD σD_37 AC σC (1 : Int32) r_50 σN_51 σD_52 h_53) gL_law_X6_pan kX6_pan rfl rfl rfl rfl ⟨(Nat.le_of_ble_eq_true rfl), (Nat.le_of_ble_eq_true rfl)⟩ [0, 19, 17, 18, 9, 10, 11, 12, 13, 14, 15, 16, 1, 2, 3, 4, 5, 6, 7, 8] [20, 21, 22, 23, 24, 25, 26, 27, 28, 29, 30] rfl rfl rfl (by decide) rfl rfl rfl rfl rfl hl.1 (Nat.le_of_ble_eq_true rfl) dL_law_254 ⟨(Nat.le_of_ble_eq_true rfl), (Nat.le_of_ble_eq_true rfl)⟩ (fun r_w u_w H locs hw hP hD hS => ?_)
                    have hP : va_P g.1 vwCl (wX6 qX AX ++ wX1 g (AX 0) AC σC ++ wX1 g (AX 1) AD σD_52 ++ wX3 g (AX 3) AP σP_46 ++ wX2 (AX 4) σN_51 ++ wX5 g (AX 5) AW .null σW ++ wX4 g (AX 6) AY σY ++ wX0 g (AX 7) AK σK ℓK) H := hP.sub [11, 23, 24, 25, 26, 27, 28, 29, 30, 15, 16, 17, 18, 19, 20, 21, 22, 13, 14, 12, 0, 1, 2, 3, 4, 5, 6, 7, 8, 9, 10] rfl
                    have hD : va_D Z (wX6 qX AX ++ wX1 g (AX 0) AC σC ++ wX1 g (AX 1) AD σD_52 ++ wX3 g (AX 3) AP σP_46 ++ wX2 (AX 4) σN_51 ++ wX5 g (AX 5) AW .null σW ++ wX4 g (AX 6) AY σY ++ wX0 g (AX 7) AK σK ℓK) := hD.sub [11, 23, 24, 25, 26, 27, 28, 29, 30, 15, 16, 17, 18, 19, 20, 21, 22, 13, 14, 12, 0, 1, 2, 3, 4, 5, 6, 7, 8, 9, 10] (by decide) rfl
                    obtain rfl : r_50 = r_w := hw.symm
                    refine lv_iload hx hb dL_law_257 (lv_at hl 0 rfl) ?_
                    refine lv_icmp_ne (tgt := 313) hx hb dL_law_259 (by decide) (fun c_55 => ?_) (fun c_55 => ?_)
                    · have hF := q_if_f c_55 hF
                      refine lv_iconst (v := 0) hx hb dL_law_313 (by decide) ?_
                      exact absurd hF (by decide)
                    · have hF := q_if_t (by first | exact c_55 | exact Classical.not_not.mp c_55) hF
                      refine lv_aload_n hx hb dL_law_262 rfl (lv_at hl 6 rfl) ?_
                      refine lv_iload hx hb dL_law_263 (lv_at hl 4 rfl) ?_
                      refine lv_iconst (v := 0) hx hb dL_law_265 (by decide) ?_
                      obtain ⟨⟨r_56, σN_57, σD_58⟩, h_59, hF⟩ := q_cl_s hF
                      try dsimp only at hF
                      refine gcV_i (As := [.int v9_1, .int 0]) (rest := []) (ci := 6) (q := (RX6, TX6, 8)) F hK hN hP hD hS hA (m_X6_behind l g H.size qX AX σN_51 AP σP_46 AD σD_52 AC σC v9_1 (0 : Int32) r_56 σN_57 σD_58 h_59) gL_law_X6_behind kX6_behind rfl rfl rfl rfl ⟨(Nat.le_of_ble_eq_true rfl), (Nat.le_of_ble_eq_true rfl)⟩ [0, 19, 17, 18, 9, 10, 11, 12, 13, 14, 15, 16, 1, 2, 3, 4, 5, 6, 7, 8] [20, 21, 22, 23, 24, 25, 26, 27, 28, 29, 30] rfl rfl rfl (by decide) rfl rfl rfl rfl rfl hl.1 (Nat.le_of_ble_eq_true rfl) dL_law_266 ⟨(Nat.le_of_ble_eq_true rfl), (Nat.le_of_ble_eq_true rfl)⟩ (fun r_w u_w H locs hw hP hD hS => ?_)
                      have hP : va_P g.1 vwCl (wX6 qX AX ++ wX1 g (AX 0) AC σC ++ wX1 g (AX 1) AD σD_58 ++ wX3 g (AX 3) AP σP_46 ++ wX2 (AX 4) σN_57 ++ wX5 g (AX 5) AW .null σW ++ wX4 g (AX 6) AY σY ++ wX0 g (AX 7) AK σK ℓK) H := hP.sub [11, 23, 24, 25, 26, 27, 28, 29, 30, 15, 16, 17, 18, 19, 20, 21, 22, 13, 14, 12, 0, 1, 2, 3, 4, 5, 6, 7, 8, 9, 10] rfl
                      have hD : va_D Z (wX6 qX AX ++ wX1 g (AX 0) AC σC ++ wX1 g (AX 1) AD σD_58 ++ wX3 g (AX 3) AP σP_46 ++ wX2 (AX 4) σN_57 ++ wX5 g (AX 5) AW .null σW ++ wX4 g (AX 6) AY σY ++ wX0 g (AX 7) AK σK ℓK) := hD.sub [11, 23, 24, 25, 26, 27, 28, 29, 30, 15, 16, 17, 18, 19, 20, 21, 22, 13, 14, 12, 0, 1, 2, 3, 4, 5, 6, 7, 8, 9, 10] (by decide) rfl
                      obtain rfl : r_56 = r_w := hw.symm
                      refine lv_iload_n hx hb dL_law_269 rfl (lv_at hl 8 rfl) ?_
                      refine lv_icmp_ne (tgt := 313) hx hb dL_law_270 (by decide) (fun c_61 => ?_) (fun c_61 => ?_)
                      · have hF := q_if_f c_61 hF
                        refine lv_iconst (v := 0) hx hb dL_law_313 (by decide) ?_
                        exact absurd hF (by decide)
                      · have hF := q_if_t (by first | exact c_61 | exact Classical.not_not.mp c_61) hF
                        refine lv_aload_n hx hb dL_law_273 rfl (lv_at hl 6 rfl) ?_
                        refine lv_iload_n hx hb dL_law_274 rfl (lv_at hl 8 rfl) ?_
                        obtain ⟨⟨r_62, σN_63, σD_64⟩, h_65, hF⟩ := q_cl_s hF
                        try dsimp only at hF
                        refine gcV_i (As := [.int v3]) (rest := []) (ci := 6) (q := (RX6, TX6, 8)) F hK hN hP hD hS hA (m_X6_holds l g H.size qX AX σN_57 AP σP_46 AD σD_58 AC σC v3 r_62 σN_63 σD_64 h_65) gL_law_X6_holds kX6_holds rfl rfl rfl rfl ⟨(Nat.le_of_ble_eq_true rfl), (Nat.le_of_ble_eq_true rfl)⟩ [0, 19, 17, 18, 9, 10, 11, 12, 13, 14, 15, 16, 1, 2, 3, 4, 5, 6, 7, 8] [20, 21, 22, 23, 24, 25, 26, 27, 28, 29, 30] rfl rfl rfl (by decide) rfl rfl rfl rfl rfl hl.1 (Nat.le_of_ble_eq_true rfl) dL_law_275 ⟨(Nat.le_of_ble_eq_true rfl), (Nat.le_of_ble_eq_true rfl)⟩ (fun r_w u_w H locs hw hP hD hS => ?_)
                        have hP : va_P g.1 vwCl (wX6 qX AX ++ wX1 g (AX 0) AC σC ++ wX1 g (AX 1) AD σD_64 ++ wX3 g (AX 3) AP σP_46 ++ wX2 (AX 4) σN_63 ++ wX5 g (AX 5) AW .null σW ++ wX4 g (AX 6) AY σY ++ wX0 g (AX 7) AK σK ℓK) H := hP.sub [11, 23, 24, 25, 26, 27, 28, 29, 30, 15, 16, 17, 18, 19, 20, 21, 22, 13, 14, 12, 0, 1, 2, 3, 4, 5, 6, 7, 8, 9, 10] rfl
                        have hD : va_D Z (wX6 qX AX ++ wX1 g (AX 0) AC σC ++ wX1 g (AX 1) AD σD_64 ++ wX3 g (AX 3) AP σP_46 ++ wX2 (AX 4) σN_63 ++ wX5 g (AX 5) AW .null σW ++ wX4 g (AX 6) AY σY ++ wX0 g (AX 7) AK σK ℓK) := hD.sub [11, 23, 24, 25, 26, 27, 28, 29, 30, 15, 16, 17, 18, 19, 20, 21, 22, 13, 14, 12, 0, 1, 2, 3, 4, 5, 6, 7, 8, 9, 10] (by decide) rfl
                        obtain rfl : r_62 = r_w := hw.symm
                        refine lv_iload hx hb dL_law_278 (lv_at hl 1 rfl) ?_
                        refine lv_icmp_ne (tgt := 313) hx hb dL_law_280 (by decide) (fun c_67 => ?_) (fun c_67 => ?_)
                        · have hF := q_if_f c_67 hF
                          refine lv_iconst (v := 0) hx hb dL_law_313 (by decide) ?_
                          exact absurd hF (by decide)
                        · have hF := q_if_t (by first | exact c_67 | exact Classical.not_not.mp c_67) hF
                          refine lv_aload_n hx hb dL_law_283 rfl (lv_at hl 6 rfl) ?_
                          refine lv_iconst (v := 0) hx hb dL_law_284 (by decide) ?_
                          obtain ⟨⟨r_68, σN_69, σD_70⟩, h_71, hF⟩ := q_cl_s hF
                          try dsimp only at hF
                          refine gcV_i (As := [.int 0]) (rest := []) (ci := 6) (q := (RX6, TX6, 8)) F hK hN hP hD hS hA (m_X6_other l g H.size qX AX σN_63 AP σP_46 AD σD_64 AC σC (0 : Int32) r_68 σN_69 σD_70 h_71) gL_law_X6_other kX6_other rfl rfl rfl rfl ⟨(Nat.le_of_ble_eq_true rfl), (Nat.le_of_ble_eq_true rfl)⟩ [0, 19, 17, 18, 9, 10, 11, 12, 13, 14, 15, 16, 1, 2, 3, 4, 5, 6, 7, 8] [20, 21, 22, 23, 24, 25, 26, 27, 28, 29, 30] rfl rfl rfl (by decide) rfl rfl rfl rfl rfl hl.1 (Nat.le_of_ble_eq_true rfl) dL_law_285 ⟨(Nat.le_of_ble_eq_true rfl), (Nat.le_of_ble_eq_true rfl)⟩ (fun r_w u_w H locs hw hP hD hS => ?_)
                          have hP : va_P g.1 vwCl (wX6 qX AX ++ wX1 g (AX 0) AC σC ++ wX1 g (AX 1) AD σD_70 ++ wX3 g (AX 3) AP σP_46 ++ wX2 (AX 4) σN_69 ++ wX5 g (AX 5) AW .null σW ++ wX4 g (AX 6) AY σY ++ wX0 g (AX 7) AK σK ℓK) H := hP.sub [11, 23, 24, 25, 26, 27, 28, 29, 30, 15, 16, 17, 18, 19, 20, 21, 22, 13, 14, 12, 0, 1, 2, 3, 4, 5, 6, 7, 8, 9, 10] rfl
                          have hD : va_D Z (wX6 qX AX ++ wX1 g (AX 0) AC σC ++ wX1 g (AX 1) AD σD_70 ++ wX3 g (AX 3) AP σP_46 ++ wX2 (AX 4) σN_69 ++ wX5 g (AX 5) AW .null σW ++ wX4 g (AX 6) AY σY ++ wX0 g (AX 7) AK σK ℓK) := hD.sub [11, 23, 24, 25, 26, 27, 28, 29, 30, 15, 16, 17, 18, 19, 20, 21, 22, 13, 14, 12, 0, 1, 2, 3, 4, 5, 6, 7, 8, 9, 10] (by decide) rfl
                          obtain rfl : r_68 = r_w := hw.symm
                          refine lv_iconst (v := 2) hx hb dL_law_288 (by decide) ?_
                          refine lv_icmp_ne (tgt := 313) hx hb dL_law_289 (by decide) (fun c_73 => ?_) (fun c_73 => ?_)
                          · have hF := q_if_f c_73 hF
                            refine lv_iconst (v := 0) hx hb dL_law_313 (by decide) ?_
                            exact absurd hF (by decide)
                          · have hF := q_if_t (by first | exact c_73 | exact Classical.not_not.mp c_73) hF
                            refine lv_aload_n hx hb dL_law_292 rfl (lv_at hl 6 rfl) ?_
                            refine lv_iconst (v := 1) hx hb dL_law_293 (by decide) ?_
                            obtain ⟨⟨r_74, σN_75, σD_76⟩, h_77, hF⟩ := q_cl_s hF
                            try dsimp only at hF
                            refine gcV_i (As := [.int 1]) (rest := []) (ci := 6) (q := (RX6, TX6, 8)) F hK hN hP hD hS hA (m_X6_other l g H.size qX AX σN_69 AP σP_46 AD σD_70 AC σC (1 : Int32) r_74 σN_75 σD_76 h_77) gL_law_X6_other kX6_other rfl rfl rfl rfl ⟨(Nat.le_of_ble_eq_true rfl), (Nat.le_of_ble_eq_true rfl)⟩ [0, 19, 17, 18, 9, 10, 11, 12, 13, 14, 15, 16, 1, 2, 3, 4, 5, 6, 7, 8] [20, 21, 22, 23, 24, 25, 26, 27, 28, 29, 30] rfl rfl rfl (by decide) rfl rfl rfl rfl rfl hl.1 (Nat.le_of_ble_eq_true rfl) dL_law_294 ⟨(Nat.le_of_ble_eq_true rfl), (Nat.le_of_ble_eq_true rfl)⟩ (fun r_w u_w H locs hw hP hD hS => ?_)
                            have hP : va_P g.1 vwCl (wX6 qX AX ++ wX1 g (AX 0) AC σC ++ wX1 g (AX 1) AD σD_76 ++ wX3 g (AX 3) AP σP_46 ++ wX2 (AX 4) σN_75 ++ wX5 g (AX 5) AW .null σW ++ wX4 g (AX 6) AY σY ++ wX0 g (AX 7) AK σK ℓK) H := hP.sub [11, 23, 24, 25, 26, 27, 28, 29, 30, 15, 16, 17, 18, 19, 20, 21, 22, 13, 14, 12, 0, 1, 2, 3, 4, 5, 6, 7, 8, 9, 10] rfl
                            have hD : va_D Z (wX6 qX AX ++ wX1 g (AX 0) AC σC ++ wX1 g (AX 1) AD σD_76 ++ wX3 g (AX 3) AP σP_46 ++ wX2 (AX 4) σN_75 ++ wX5 g (AX 5) AW .null σW ++ wX4 g (AX 6) AY σY ++ wX0 g (AX 7) AK σK ℓK) := hD.sub [11, 23, 24, 25, 26, 27, 28, 29, 30, 15, 16, 17, 18, 19, 20, 21, 22, 13, 14, 12, 0, 1, 2, 3, 4, 5, 6, 7, 8, 9, 10] (by decide) rfl
                            obtain rfl : r_74 = r_w := hw.symm
                            refine lv_if_ne (tgt := 313) hx hb dL_law_297 (by decide) (fun c_79 => ?_) (fun c_79 => ?_)
                            · have hF := q_if_f c_79 hF
                              refine lv_iconst (v := 0) hx hb dL_law_313 (by decide) ?_
                              exact absurd hF (by decide)
                            · have hF := q_if_t (by first | exact c_79 | exact Classical.not_not.mp c_79) hF
                              refine lv_aload_n hx hb dL_law_300 rfl (lv_at hl 6 rfl) ?_
                              refine lv_iconst (v := 2) hx hb dL_law_301 (by decide) ?_
                              obtain ⟨⟨r_80, σN_81, σD_82⟩, h_83, hF⟩ := q_cl_s hF
                              try dsimp only at hF
                              refine gcV_i (As := [.int 2]) (rest := []) (ci := 6) (q := (RX6, TX6, 8)) F hK hN hP hD hS hA (m_X6_judge l g H.size qX AX σN_75 AP σP_46 AD σD_76 AC σC (2 : Int32) r_80 σN_81 σD_82 h_83) gL_law_X6_judge kX6_judge rfl rfl rfl rfl ⟨(Nat.le_of_ble_eq_true rfl), (Nat.le_of_ble_eq_true rfl)⟩ [0, 19, 17, 18, 9, 10, 11, 12, 13, 14, 15, 16, 1, 2, 3, 4, 5, 6, 7, 8] [20, 21, 22, 23, 24, 25, 26, 27, 28, 29, 30] rfl rfl rfl (by decide) rfl rfl rfl rfl rfl hl.1 (Nat.le_of_ble_eq_true rfl) dL_law_302 ⟨(Nat.le_of_ble_eq_true rfl), (Nat.le_of_ble_eq_true rfl)⟩ (fun r_w u_w H locs hw hP hD hS => ?_)
                              have hP : va_P g.1 vwCl (wX6 qX AX ++ wX1 g (AX 0) AC σC ++ wX1 g (AX 1) AD σD_82 ++ wX3 g (AX 3) AP σP_46 ++ wX2 (AX 4) σN_81 ++ wX5 g (AX 5) AW .null σW ++ wX4 g (AX 6) AY σY ++ wX0 g (AX 7) AK σK ℓK) H := hP.sub [11, 23, 24, 25, 26, 27, 28, 29, 30, 15, 16, 17, 18, 19, 20, 21, 22, 13, 14, 12, 0, 1, 2, 3, 4, 5, 6, 7, 8, 9, 10] rfl
                              have hD : va_D Z (wX6 qX AX ++ wX1 g (AX 0) AC σC ++ wX1 g (AX 1) AD σD_82 ++ wX3 g (AX 3) AP σP_46 ++ wX2 (AX 4) σN_81 ++ wX5 g (AX 5) AW .null σW ++ wX4 g (AX 6) AY σY ++ wX0 g (AX 7) AK σK ℓK) := hD.sub [11, 23, 24, 25, 26, 27, 28, 29, 30, 15, 16, 17, 18, 19, 20, 21, 22, 13, 14, 12, 0, 1, 2, 3, 4, 5, 6, 7, 8, 9, 10] (by decide) rfl
                              obtain rfl : r_80 = r_w := hw.symm
                              refine lv_iload hx hb dL_law_305 (lv_at hl 1 rfl) ?_
                              obtain ⟨r_85, h_86, hF⟩ := q_cl_s hF
                              refine gcP (As := [.int v7_42]) (rest := [.int r_80]) F (m_L_bits l v7_42 r_85 h_86) gL_law_L_bits kL_bits rfl rfl rfl ⟨(Nat.le_of_ble_eq_true rfl), (Nat.le_of_ble_eq_true rfl)⟩ rfl rfl hl.1 (Nat.le_of_ble_eq_true rfl) dL_law_307 ⟨(Nat.le_of_ble_eq_true rfl), (Nat.le_of_ble_eq_true rfl)⟩ ?_
                              refine lv_icmp_eq (tgt := 315) hx hb dL_law_310 (by decide) (fun c_87 => ?_) (fun c_87 => ?_)
                              · have hF := q_if_t c_87 hF
                                refine lv_iinc (v := v9_1 + 1) (lv' := [(9, .int (v9_1 + 1)), (6, .int 0), (7, .int v7_42), (8, .int ((v8_1 + 1) + 1)), (5, .int ((v5_1 + 1) + 1)), (0, .ref b), (1, .ref qX), (2, .int v2), (3, .int v3), (4, .int v4)]) hx hb dL_law_315 hl (k := 4) rfl rfl (by decide) rfl (fun ls hl => ?_)
                                refine lv_goto (tgt := 140) hx hb dL_law_318 (by decide) ?_
                                exact ag (v9_1 + 1, (v5_1 + 1) + 1, (0 : Int32), (v8_1 + 1) + 1, σD_82, σP_46, σN_81, v7_42) hF _ _ _ hP hD hS (lv_sub hl [0, 5, 6, 7, 8, 9, 4, 1, 2, 3] rfl)
                              · have hF := q_if_f c_87 hF
                                refine lv_iconst (v := 0) hx hb dL_law_313 (by decide) ?_
                                exact absurd hF (by decide)
                · have hF := q_if_f c_44 hF
                  refine lv_iload hx hb dL_law_231 (lv_at hl 3 rfl) ?_
                  refine lv_iconst (v := 5) hx hb dL_law_233 (by decide) ?_
                  refine lv_isub hx hb dL_law_234 ?_
                  refine lv_goto (tgt := 239) hx hb dL_law_235 (by decide) ?_
                  obtain ⟨v6_88, e_89, hF⟩ := q_bd_s hF
                  refine gtop e_89 ?_
                  refine lv_istore (lv' := [(6, .int v6_88), (7, .int v7_42), (8, .int ((v8_1 + 1) + 1)), (5, .int ((v5_1 + 1) + 1)), (9, .int v9_1), (0, .ref b), (1, .ref qX), (2, .int v2), (3, .int v3), (4, .int v4)]) hx hb dL_law_239 hl (by decide) rfl (fun ls hl => ?_)
                  refine lv_aload_n hx hb dL_law_241 rfl (lv_at hl 6 rfl) ?_
                  refine lv_bipush (v := 42) hx hb dL_law_242 (by decide) ?_
                  obtain ⟨⟨r_90, σP_91⟩, h_92, hF⟩ := q_cl_s hF
                  try dsimp only at hF
                  refine gcV_i (As := [.int 42]) (rest := []) (ci := 6) (q := (RX6, TX6, 8)) F hK hN hP hD hS hA (m_X6_say l g H.size qX AX AP σP_25 (42 : Int32) r_90 σP_91 h_92) gL_law_X6_say kX6_say rfl rfl rfl rfl ⟨(Nat.le_of_ble_eq_true rfl), (Nat.le_of_ble_eq_true rfl)⟩ [0, 17, 18] [1, 2, 3, 4, 5, 6, 7, 8, 9, 10, 11, 12, 13, 14, 15, 16, 19, 20, 21, 22, 23, 24, 25, 26, 27, 28, 29, 30] rfl rfl rfl (by decide) rfl rfl rfl rfl rfl hl.1 (Nat.le_of_ble_eq_true rfl) dL_law_244 ⟨(Nat.le_of_ble_eq_true rfl), (Nat.le_of_ble_eq_true rfl)⟩ (fun r_w u_w H locs hw hP hD hS => ?_)
                  have hP : va_P g.1 vwCl (wX6 qX AX ++ wX1 g (AX 0) AC σC ++ wX1 g (AX 1) AD σD_37 ++ wX3 g (AX 3) AP σP_91 ++ wX2 (AX 4) σN_36 ++ wX5 g (AX 5) AW .null σW ++ wX4 g (AX 6) AY σY ++ wX0 g (AX 7) AK σK ℓK) H := hP.sub [28, 0, 1, 2, 3, 4, 5, 6, 7, 8, 9, 10, 11, 12, 13, 14, 15, 29, 30, 16, 17, 18, 19, 20, 21, 22, 23, 24, 25, 26, 27] rfl
                  have hD : va_D Z (wX6 qX AX ++ wX1 g (AX 0) AC σC ++ wX1 g (AX 1) AD σD_37 ++ wX3 g (AX 3) AP σP_91 ++ wX2 (AX 4) σN_36 ++ wX5 g (AX 5) AW .null σW ++ wX4 g (AX 6) AY σY ++ wX0 g (AX 7) AK σK ℓK) := hD.sub [28, 0, 1, 2, 3, 4, 5, 6, 7, 8, 9, 10, 11, 12, 13, 14, 15, 29, 30, 16, 17, 18, 19, 20, 21, 22, 23, 24, 25, 26, 27] (by decide) rfl
                  obtain rfl : r_90 = r_w := hw.symm
                  refine lv_iload hx hb dL_law_247 (lv_at hl 3 rfl) ?_
                  refine lv_icmp_ne (tgt := 313) hx hb dL_law_249 (by decide) (fun c_94 => ?_) (fun c_94 => ?_)
                  · have hF := q_if_f c_94 hF
                    refine lv_iconst (v := 0) hx hb dL_law_313 (by decide) ?_
                    exact absurd hF (by decide)
                  · have hF := q_if_t (by first | exact c_94 | exact Classical.not_not.mp c_94) hF
                    refine lv_aload_n hx hb dL_law_252 rfl (lv_at hl 6 rfl) ?_
                    refine lv_iconst (v := 1) hx hb dL_law_253 (by decide) ?_
                    obtain ⟨⟨r_95, σN_96, σD_97⟩, h_98, hF⟩ := q_cl_s hF
                    try dsimp only at hF
                    refine gcV_i (As := [.int 1]) (rest := []) (ci := 6) (q := (RX6, TX6, 8)) F hK hN hP hD hS hA (m_X6_pan l g H.size qX AX σN_36 AP σP_91 AD σD_37 AC σC (1 : Int32) r_95 σN_96 σD_97 h_98) gL_law_X6_pan kX6_pan rfl rfl rfl rfl ⟨(Nat.le_of_ble_eq_true rfl), (Nat.le_of_ble_eq_true rfl)⟩ [0, 19, 17, 18, 9, 10, 11, 12, 13, 14, 15, 16, 1, 2, 3, 4, 5, 6, 7, 8] [20, 21, 22, 23, 24, 25, 26, 27, 28, 29, 30] rfl rfl rfl (by decide) rfl rfl rfl rfl rfl hl.1 (Nat.le_of_ble_eq_true rfl) dL_law_254 ⟨(Nat.le_of_ble_eq_true rfl), (Nat.le_of_ble_eq_true rfl)⟩ (fun r_w u_w H locs hw hP hD hS => ?_)
                    have hP : va_P g.1 vwCl (wX6 qX AX ++ wX1 g (AX 0) AC σC ++ wX1 g (AX 1) AD σD_97 ++ wX3 g (AX 3) AP σP_91 ++ wX2 (AX 4) σN_96 ++ wX5 g (AX 5) AW .null σW ++ wX4 g (AX 6) AY σY ++ wX0 g (AX 7) AK σK ℓK) H := hP.sub [11, 23, 24, 25, 26, 27, 28, 29, 30, 15, 16, 17, 18, 19, 20, 21, 22, 13, 14, 12, 0, 1, 2, 3, 4, 5, 6, 7, 8, 9, 10] rfl
                    have hD : va_D Z (wX6 qX AX ++ wX1 g (AX 0) AC σC ++ wX1 g (AX 1) AD σD_97 ++ wX3 g (AX 3) AP σP_91 ++ wX2 (AX 4) σN_96 ++ wX5 g (AX 5) AW .null σW ++ wX4 g (AX 6) AY σY ++ wX0 g (AX 7) AK σK ℓK) := hD.sub [11, 23, 24, 25, 26, 27, 28, 29, 30, 15, 16, 17, 18, 19, 20, 21, 22, 13, 14, 12, 0, 1, 2, 3, 4, 5, 6, 7, 8, 9, 10] (by decide) rfl
                    obtain rfl : r_95 = r_w := hw.symm
                    refine lv_iload hx hb dL_law_257 (lv_at hl 0 rfl) ?_
                    refine lv_icmp_ne (tgt := 313) hx hb dL_law_259 (by decide) (fun c_100 => ?_) (fun c_100 => ?_)
                    · have hF := q_if_f c_100 hF
                      refine lv_iconst (v := 0) hx hb dL_law_313 (by decide) ?_
                      exact absurd hF (by decide)
                    · have hF := q_if_t (by first | exact c_100 | exact Classical.not_not.mp c_100) hF
                      refine lv_aload_n hx hb dL_law_262 rfl (lv_at hl 6 rfl) ?_
                      refine lv_iload hx hb dL_law_263 (lv_at hl 4 rfl) ?_
                      refine lv_iconst (v := 0) hx hb dL_law_265 (by decide) ?_
                      obtain ⟨⟨r_101, σN_102, σD_103⟩, h_104, hF⟩ := q_cl_s hF
                      try dsimp only at hF
                      refine gcV_i (As := [.int v9_1, .int 0]) (rest := []) (ci := 6) (q := (RX6, TX6, 8)) F hK hN hP hD hS hA (m_X6_behind l g H.size qX AX σN_96 AP σP_91 AD σD_97 AC σC v9_1 (0 : Int32) r_101 σN_102 σD_103 h_104) gL_law_X6_behind kX6_behind rfl rfl rfl rfl ⟨(Nat.le_of_ble_eq_true rfl), (Nat.le_of_ble_eq_true rfl)⟩ [0, 19, 17, 18, 9, 10, 11, 12, 13, 14, 15, 16, 1, 2, 3, 4, 5, 6, 7, 8] [20, 21, 22, 23, 24, 25, 26, 27, 28, 29, 30] rfl rfl rfl (by decide) rfl rfl rfl rfl rfl hl.1 (Nat.le_of_ble_eq_true rfl) dL_law_266 ⟨(Nat.le_of_ble_eq_true rfl), (Nat.le_of_ble_eq_true rfl)⟩ (fun r_w u_w H locs hw hP hD hS => ?_)
                      have hP : va_P g.1 vwCl (wX6 qX AX ++ wX1 g (AX 0) AC σC ++ wX1 g (AX 1) AD σD_103 ++ wX3 g (AX 3) AP σP_91 ++ wX2 (AX 4) σN_102 ++ wX5 g (AX 5) AW .null σW ++ wX4 g (AX 6) AY σY ++ wX0 g (AX 7) AK σK ℓK) H := hP.sub [11, 23, 24, 25, 26, 27, 28, 29, 30, 15, 16, 17, 18, 19, 20, 21, 22, 13, 14, 12, 0, 1, 2, 3, 4, 5, 6, 7, 8, 9, 10] rfl
                      have hD : va_D Z (wX6 qX AX ++ wX1 g (AX 0) AC σC ++ wX1 g (AX 1) AD σD_103 ++ wX3 g (AX 3) AP σP_91 ++ wX2 (AX 4) σN_102 ++ wX5 g (AX 5) AW .null σW ++ wX4 g (AX 6) AY σY ++ wX0 g (AX 7) AK σK ℓK) := hD.sub [11, 23, 24, 25, 26, 27, 28, 29, 30, 15, 16, 17, 18, 19, 20, 21, 22, 13, 14, 12, 0, 1, 2, 3, 4, 5, 6, 7, 8, 9, 10] (by decide) rfl
                      obtain rfl : r_101 = r_w := hw.symm
                      refine lv_iload_n hx hb dL_law_269 rfl (lv_at hl 8 rfl) ?_
                      refine lv_icmp_ne (tgt := 313) hx hb dL_law_270 (by decide) (fun c_106 => ?_) (fun c_106 => ?_)
                      · have hF := q_if_f c_106 hF
                        refine lv_iconst (v := 0) hx hb dL_law_313 (by decide) ?_
                        exact absurd hF (by decide)
                      · have hF := q_if_t (by first | exact c_106 | exact Classical.not_not.mp c_106) hF
                        refine lv_aload_n hx hb dL_law_273 rfl (lv_at hl 6 rfl) ?_
                        refine lv_iload_n hx hb dL_law_274 rfl (lv_at hl 8 rfl) ?_
                        obtain ⟨⟨r_107, σN_108, σD_109⟩, h_110, hF⟩ := q_cl_s hF
                        try dsimp only at hF
                        refine gcV_i (As := [.int v3]) (rest := []) (ci := 6) (q := (RX6, TX6, 8)) F hK hN hP hD hS hA (m_X6_holds l g H.size qX AX σN_102 AP σP_91 AD σD_103 AC σC v3 r_107 σN_108 σD_109 h_110) gL_law_X6_holds kX6_holds rfl rfl rfl rfl ⟨(Nat.le_of_ble_eq_true rfl), (Nat.le_of_ble_eq_true rfl)⟩ [0, 19, 17, 18, 9, 10, 11, 12, 13, 14, 15, 16, 1, 2, 3, 4, 5, 6, 7, 8] [20, 21, 22, 23, 24, 25, 26, 27, 28, 29, 30] rfl rfl rfl (by decide) rfl rfl rfl rfl rfl hl.1 (Nat.le_of_ble_eq_true rfl) dL_law_275 ⟨(Nat.le_of_ble_eq_true rfl), (Nat.le_of_ble_eq_true rfl)⟩ (fun r_w u_w H locs hw hP hD hS => ?_)
                        have hP : va_P g.1 vwCl (wX6 qX AX ++ wX1 g (AX 0) AC σC ++ wX1 g (AX 1) AD σD_109 ++ wX3 g (AX 3) AP σP_91 ++ wX2 (AX 4) σN_108 ++ wX5 g (AX 5) AW .null σW ++ wX4 g (AX 6) AY σY ++ wX0 g (AX 7) AK σK ℓK) H := hP.sub [11, 23, 24, 25, 26, 27, 28, 29, 30, 15, 16, 17, 18, 19, 20, 21, 22, 13, 14, 12, 0, 1, 2, 3, 4, 5, 6, 7, 8, 9, 10] rfl
                        have hD : va_D Z (wX6 qX AX ++ wX1 g (AX 0) AC σC ++ wX1 g (AX 1) AD σD_109 ++ wX3 g (AX 3) AP σP_91 ++ wX2 (AX 4) σN_108 ++ wX5 g (AX 5) AW .null σW ++ wX4 g (AX 6) AY σY ++ wX0 g (AX 7) AK σK ℓK) := hD.sub [11, 23, 24, 25, 26, 27, 28, 29, 30, 15, 16, 17, 18, 19, 20, 21, 22, 13, 14, 12, 0, 1, 2, 3, 4, 5, 6, 7, 8, 9, 10] (by decide) rfl
                        obtain rfl : r_107 = r_w := hw.symm
                        refine lv_iload hx hb dL_law_278 (lv_at hl 1 rfl) ?_
                        refine lv_icmp_ne (tgt := 313) hx hb dL_law_280 (by decide) (fun c_112 => ?_) (fun c_112 => ?_)
                        · have hF := q_if_f c_112 hF
                          refine lv_iconst (v := 0) hx hb dL_law_313 (by decide) ?_
                          exact absurd hF (by decide)
                        · have hF := q_if_t (by first | exact c_112 | exact Classical.not_not.mp c_112) hF
                          refine lv_aload_n hx hb dL_law_283 rfl (lv_at hl 6 rfl) ?_
                          refine lv_iconst (v := 0) hx hb dL_law_284 (by decide) ?_
                          obtain ⟨⟨r_113, σN_114, σD_115⟩, h_116, hF⟩ := q_cl_s hF
                          try dsimp only at hF
                          refine gcV_i (As := [.int 0]) (rest := []) (ci := 6) (q := (RX6, TX6, 8)) F hK hN hP hD hS hA (m_X6_other l g H.size qX AX σN_108 AP σP_91 AD σD_109 AC σC (0 : Int32) r_113 σN_114 σD_115 h_116) gL_law_X6_other kX6_other rfl rfl rfl rfl ⟨(Nat.le_of_ble_eq_true rfl), (Nat.le_of_ble_eq_true rfl)⟩ [0, 19, 17, 18, 9, 10, 11, 12, 13, 14, 15, 16, 1, 2, 3, 4, 5, 6, 7, 8] [20, 21, 22, 23, 24, 25, 26, 27, 28, 29, 30] rfl rfl rfl (by decide) rfl rfl rfl rfl rfl hl.1 (Nat.le_of_ble_eq_true rfl) dL_law_285 ⟨(Nat.le_of_ble_eq_true rfl), (Nat.le_of_ble_eq_true rfl)⟩ (fun r_w u_w H locs hw hP hD hS => ?_)
                          have hP : va_P g.1 vwCl (wX6 qX AX ++ wX1 g (AX 0) AC σC ++ wX1 g (AX 1) AD σD_115 ++ wX3 g (AX 3) AP σP_91 ++ wX2 (AX 4) σN_114 ++ wX5 g (AX 5) AW .null σW ++ wX4 g (AX 6) AY σY ++ wX0 g (AX 7) AK σK ℓK) H := hP.sub [11, 23, 24, 25, 26, 27, 28, 29, 30, 15, 16, 17, 18, 19, 20, 21, 22, 13, 14, 12, 0, 1, 2, 3, 4, 5, 6, 7, 8, 9, 10] rfl
                          have hD : va_D Z (wX6 qX AX ++ wX1 g (AX 0) AC σC ++ wX1 g (AX 1) AD σD_115 ++ wX3 g (AX 3) AP σP_91 ++ wX2 (AX 4) σN_114 ++ wX5 g (AX 5) AW .null σW ++ wX4 g (AX 6) AY σY ++ wX0 g (AX 7) AK σK ℓK) := hD.sub [11, 23, 24, 25, 26, 27, 28, 29, 30, 15, 16, 17, 18, 19, 20, 21, 22, 13, 14, 12, 0, 1, 2, 3, 4, 5, 6, 7, 8, 9, 10] (by decide) rfl
                          obtain rfl : r_113 = r_w := hw.symm
                          refine lv_iconst (v := 2) hx hb dL_law_288 (by decide) ?_
                          refine lv_icmp_ne (tgt := 313) hx hb dL_law_289 (by decide) (fun c_118 => ?_) (fun c_118 => ?_)
                          · have hF := q_if_f c_118 hF
                            refine lv_iconst (v := 0) hx hb dL_law_313 (by decide) ?_
                            exact absurd hF (by decide)
                          · have hF := q_if_t (by first | exact c_118 | exact Classical.not_not.mp c_118) hF
                            refine lv_aload_n hx hb dL_law_292 rfl (lv_at hl 6 rfl) ?_
                            refine lv_iconst (v := 1) hx hb dL_law_293 (by decide) ?_
                            obtain ⟨⟨r_119, σN_120, σD_121⟩, h_122, hF⟩ := q_cl_s hF
                            try dsimp only at hF
                            refine gcV_i (As := [.int 1]) (rest := []) (ci := 6) (q := (RX6, TX6, 8)) F hK hN hP hD hS hA (m_X6_other l g H.size qX AX σN_114 AP σP_91 AD σD_115 AC σC (1 : Int32) r_119 σN_120 σD_121 h_122) gL_law_X6_other kX6_other rfl rfl rfl rfl ⟨(Nat.le_of_ble_eq_true rfl), (Nat.le_of_ble_eq_true rfl)⟩ [0, 19, 17, 18, 9, 10, 11, 12, 13, 14, 15, 16, 1, 2, 3, 4, 5, 6, 7, 8] [20, 21, 22, 23, 24, 25, 26, 27, 28, 29, 30] rfl rfl rfl (by decide) rfl rfl rfl rfl rfl hl.1 (Nat.le_of_ble_eq_true rfl) dL_law_294 ⟨(Nat.le_of_ble_eq_true rfl), (Nat.le_of_ble_eq_true rfl)⟩ (fun r_w u_w H locs hw hP hD hS => ?_)
                            have hP : va_P g.1 vwCl (wX6 qX AX ++ wX1 g (AX 0) AC σC ++ wX1 g (AX 1) AD σD_121 ++ wX3 g (AX 3) AP σP_91 ++ wX2 (AX 4) σN_120 ++ wX5 g (AX 5) AW .null σW ++ wX4 g (AX 6) AY σY ++ wX0 g (AX 7) AK σK ℓK) H := hP.sub [11, 23, 24, 25, 26, 27, 28, 29, 30, 15, 16, 17, 18, 19, 20, 21, 22, 13, 14, 12, 0, 1, 2, 3, 4, 5, 6, 7, 8, 9, 10] rfl
                            have hD : va_D Z (wX6 qX AX ++ wX1 g (AX 0) AC σC ++ wX1 g (AX 1) AD σD_121 ++ wX3 g (AX 3) AP σP_91 ++ wX2 (AX 4) σN_120 ++ wX5 g (AX 5) AW .null σW ++ wX4 g (AX 6) AY σY ++ wX0 g (AX 7) AK σK ℓK) := hD.sub [11, 23, 24, 25, 26, 27, 28, 29, 30, 15, 16, 17, 18, 19, 20, 21, 22, 13, 14, 12, 0, 1, 2, 3, 4, 5, 6, 7, 8, 9, 10] (by decide) rfl
                            obtain rfl : r_119 = r_w := hw.symm
                            refine lv_if_ne (tgt := 313) hx hb dL_law_297 (by decide) (fun c_124 => ?_) (fun c_124 => ?_)
                            · have hF := q_if_f c_124 hF
                              refine lv_iconst (v := 0) hx hb dL_law_313 (by decide) ?_
                              exact absurd hF (by decide)
                            · have hF := q_if_t (by first | exact c_124 | exact Classical.not_not.mp c_124) hF
                              refine lv_aload_n hx hb dL_law_300 rfl (lv_at hl 6 rfl) ?_
                              refine lv_iconst (v := 2) hx hb dL_law_301 (by decide) ?_
                              obtain ⟨⟨r_125, σN_126, σD_127⟩, h_128, hF⟩ := q_cl_s hF
                              try dsimp only at hF
                              refine gcV_i (As := [.int 2]) (rest := []) (ci := 6) (q := (RX6, TX6, 8)) F hK hN hP hD hS hA (m_X6_judge l g H.size qX AX σN_120 AP σP_91 AD σD_121 AC σC (2 : Int32) r_125 σN_126 σD_127 h_128) gL_law_X6_judge kX6_judge rfl rfl rfl rfl ⟨(Nat.le_of_ble_eq_true rfl), (Nat.le_of_ble_eq_true rfl)⟩ [0, 19, 17, 18, 9, 10, 11, 12, 13, 14, 15, 16, 1, 2, 3, 4, 5, 6, 7, 8] [20, 21, 22, 23, 24, 25, 26, 27, 28, 29, 30] rfl rfl rfl (by decide) rfl rfl rfl rfl rfl hl.1 (Nat.le_of_ble_eq_true rfl) dL_law_302 ⟨(Nat.le_of_ble_eq_true rfl), (Nat.le_of_ble_eq_true rfl)⟩ (fun r_w u_w H locs hw hP hD hS => ?_)
                              have hP : va_P g.1 vwCl (wX6 qX AX ++ wX1 g (AX 0) AC σC ++ wX1 g (AX 1) AD σD_127 ++ wX3 g (AX 3) AP σP_91 ++ wX2 (AX 4) σN_126 ++ wX5 g (AX 5) AW .null σW ++ wX4 g (AX 6) AY σY ++ wX0 g (AX 7) AK σK ℓK) H := hP.sub [11, 23, 24, 25, 26, 27, 28, 29, 30, 15, 16, 17, 18, 19, 20, 21, 22, 13, 14, 12, 0, 1, 2, 3, 4, 5, 6, 7, 8, 9, 10] rfl
                              have hD : va_D Z (wX6 qX AX ++ wX1 g (AX 0) AC σC ++ wX1 g (AX 1) AD σD_127 ++ wX3 g (AX 3) AP σP_91 ++ wX2 (AX 4) σN_126 ++ wX5 g (AX 5) AW .null σW ++ wX4 g (AX 6) AY σY ++ wX0 g (AX 7) AK σK ℓK) := hD.sub [11, 23, 24, 25, 26, 27, 28, 29, 30, 15, 16, 17, 18, 19, 20, 21, 22, 13, 14, 12, 0, 1, 2, 3, 4, 5, 6, 7, 8, 9, 10] (by decide) rfl
                              obtain rfl : r_125 = r_w := hw.symm
                              refine lv_iload hx hb dL_law_305 (lv_at hl 1 rfl) ?_
                              obtain ⟨r_130, h_131, hF⟩ := q_cl_s hF
                              refine gcP (As := [.int v7_42]) (rest := [.int r_125]) F (m_L_bits l v7_42 r_130 h_131) gL_law_L_bits kL_bits rfl rfl rfl ⟨(Nat.le_of_ble_eq_true rfl), (Nat.le_of_ble_eq_true rfl)⟩ rfl rfl hl.1 (Nat.le_of_ble_eq_true rfl) dL_law_307 ⟨(Nat.le_of_ble_eq_true rfl), (Nat.le_of_ble_eq_true rfl)⟩ ?_
                              refine lv_icmp_eq (tgt := 315) hx hb dL_law_310 (by decide) (fun c_132 => ?_) (fun c_132 => ?_)
                              · have hF := q_if_t c_132 hF
                                refine lv_iinc (v := v9_1 + 1) (lv' := [(9, .int (v9_1 + 1)), (6, .int v6_88), (7, .int v7_42), (8, .int ((v8_1 + 1) + 1)), (5, .int ((v5_1 + 1) + 1)), (0, .ref b), (1, .ref qX), (2, .int v2), (3, .int v3), (4, .int v4)]) hx hb dL_law_315 hl (k := 4) rfl rfl (by decide) rfl (fun ls hl => ?_)
                                refine lv_goto (tgt := 140) hx hb dL_law_318 (by decide) ?_
                                exact ag (v9_1 + 1, (v5_1 + 1) + 1, v6_88, (v8_1 + 1) + 1, σD_127, σP_91, σN_126, v7_42) hF _ _ _ hP hD hS (lv_sub hl [0, 5, 6, 7, 8, 9, 4, 1, 2, 3] rfl)
                              · have hF := q_if_f c_132 hF
                                refine lv_iconst (v := 0) hx hb dL_law_313 (by decide) ?_
                                exact absurd hF (by decide)
            · have hF := q_if_f c_40 hF
              refine lv_iconst (v := 0) hx hb dL_law_203 (by decide) ?_
              exact absurd hF (by decide)
