set_option maxHeartbeats 32000000 in
set_option maxRecDepth 100000 in
theorem gs_2243 {p : Program} {l : Launch} {e : Env} {s : State} {m : MethodId} {below : List Frame} {meth : Method} {c : Code} {b : Nat} {g : GT} {Z : Nat → Prop} {H : Heap} {locs : List Loc} {ls : Array Slot} {qE qH qX : Nat} {AX AC AD AP AW AY AK : Nat → Nat} {L : Nat} {xs : Nat → Int32} {σC : qS} {σD : qS} {σP : qS} {σN : qS} {σW : qS} {σY : qS} {σK : qS} {ℓK : qL} {σH : qS} {σE : qS} {v2 : Int32} {v4 : Int32} {v7 : Int32} {v9 : Int32} {v22 : Int32} {v23 : Int32} {v24 : Int32} {v25 : Int32} {v26 : Int32}
    (hx : p.tables.exec = Jvm.exec) (hb : c.code = cL_law) (hr : meth.sig.returnType = ret) (hlocks : meth.locks = false) (F : CallFix p m c cL_law 30 s #[Value.ref b] wsL_law RL) (hK : va_K g.1 vwCl (tyL g) s) (hN : NW s) (hA : ∀ q : Nat, s.heap.size ≤ q → Z q) (hZ : Z = fun q => s.heap.size ≤ q) (hbA : ¬ Z b) (hX : va_X b L xs s s.heap) (hbl : b < s.heap.size) (hF : g_2243 L xs σC σD σP σN σW σY σK ℓK σH σE v2 v4 v7 v9 v22 v23 v24 v25 v26 = some 1)
    (hP : va_P g.1 vwCl (wX6 qX AX ++ wX1 g (AX 0) AC σC ++ wX1 g (AX 1) AD σD ++ wX3 g (AX 3) AP σP ++ wX2 (AX 4) σN ++ wX5 g (AX 5) AW (.ref qH) σW ++ wX4 g (AX 6) AY σY ++ wX0 g (AX 7) AK σK ℓK ++ wH g qH σH ++ wR g qE 61 σE) H) (hD : va_D Z (wX6 qX AX ++ wX1 g (AX 0) AC σC ++ wX1 g (AX 1) AD σD ++ wX3 g (AX 3) AP σP ++ wX2 (AX 4) σN ++ wX5 g (AX 5) AW (.ref qH) σW ++ wX4 g (AX 6) AY σY ++ wX0 g (AX 7) AK σK ℓK ++ wH g qH σH ++ wR g qE 61 σE)) (hS : va_S Z s.heap H locs) (hl : lv_has ls 30 [(0, .ref b), (2, .int v2), (4, .int v4), (7, .int v7), (9, .int v9), (22, .int v22), (23, .int v23), (24, .int v24), (25, .int v25), (26, .int v26), (27, .ref qE)]) : W p l e room_1 s m #[Value.ref b] below meth c H locs 300 60000 (lw_Z below #[Value.ref b] s) (F0 m 2243 ls []) := by
  have hts := F.2.2.2.2
  have hown : s.vm.findClass RL = some m.cls := F.2.2.2.1
  dsimp only [g_2243] at hF
  refine q_loop (fun u0 => wX6 qX AX ++ wX1 g (AX 0) AC σC ++ wX1 g (AX 1) AD σD ++ wX3 g (AX 3) AP σP ++ wX2 (AX 4) σN ++ wX5 g (AX 5) AW (.ref qH) σW ++ wX4 g (AX 6) AY σY ++ wX0 g (AX 7) AK σK ℓK ++ wH g qH σH ++ wR g qE 61 σE) (fun u0 => [(0, .ref b), (2, .int v2), (4, .int v4), (7, .int v7), (9, .int v9), (22, .int u0.1), (23, .int v23), (24, .int v24), (25, .int u0.2.1), (26, .int u0.2.2), (27, .ref qE)]) 2350 hF ?_ ?_ (by exact hP) (by exact hD) hS (lv_sub hl [0, 1, 2, 3, 4, 5, 6, 7, 8, 9, 10] rfl)
  · rintro ⟨v22_1, v25_1, v26_1⟩ hF H locs ls hP hD hS hl
    try dsimp only at hF
    have hP : va_P g.1 vwCl (wX6 qX AX ++ wX1 g (AX 0) AC σC ++ wX1 g (AX 1) AD σD ++ wX3 g (AX 3) AP σP ++ wX2 (AX 4) σN ++ wX5 g (AX 5) AW (.ref qH) σW ++ wX4 g (AX 6) AY σY ++ wX0 g (AX 7) AK σK ℓK ++ wH g qH σH ++ wR g qE 61 σE) H := hP
    have hD : va_D Z (wX6 qX AX ++ wX1 g (AX 0) AC σC ++ wX1 g (AX 1) AD σD ++ wX3 g (AX 3) AP σP ++ wX2 (AX 4) σN ++ wX5 g (AX 5) AW (.ref qH) σW ++ wX4 g (AX 6) AY σY ++ wX0 g (AX 7) AK σK ℓK ++ wH g qH σH ++ wR g qE 61 σE) := hD
    have hl : lv_has ls 30 [(0, .ref b), (2, .int v2), (4, .int v4), (7, .int v7), (9, .int v9), (22, .int v22_1), (23, .int v23), (24, .int v24), (25, .int v25_1), (26, .int v26_1), (27, .ref qE)] := hl
    exact gs_2350 hx hb hr hlocks F hK hN hA hZ hbA hX hbl hF hP hD hS (lv_sub hl [1, 2, 3, 4, 6, 9] rfl)
  · rintro k again kk ag ⟨v22_1, v25_1, v26_1⟩ hF H locs ls hP hD hS hl
    dsimp only [b_L_law_2243] at hF
    have hP : va_P g.1 vwCl (wX6 qX AX ++ wX1 g (AX 0) AC σC ++ wX1 g (AX 1) AD σD ++ wX3 g (AX 3) AP σP ++ wX2 (AX 4) σN ++ wX5 g (AX 5) AW (.ref qH) σW ++ wX4 g (AX 6) AY σY ++ wX0 g (AX 7) AK σK ℓK ++ wH g qH σH ++ wR g qE 61 σE) H := hP
    have hD : va_D Z (wX6 qX AX ++ wX1 g (AX 0) AC σC ++ wX1 g (AX 1) AD σD ++ wX3 g (AX 3) AP σP ++ wX2 (AX 4) σN ++ wX5 g (AX 5) AW (.ref qH) σW ++ wX4 g (AX 6) AY σY ++ wX0 g (AX 7) AK σK ℓK ++ wH g qH σH ++ wR g qE 61 σE) := hD
    have hl : lv_has ls 30 [(0, .ref b), (2, .int v2), (4, .int v4), (7, .int v7), (9, .int v9), (22, .int v22_1), (23, .int v23), (24, .int v24), (25, .int v25_1), (26, .int v26_1), (27, .ref qE)] := hl
    refine lv_iload hx hb dL_law_2243 (lv_at hl 5 rfl) ?_
    refine lv_if_le (tgt := 2350) hx hb dL_law_2245 (by decide) (fun c_2 => ?_) (fun c_2 => ?_)
    · have hF := q_if_t c_2 hF
      exact kk (v22_1, v25_1, v26_1) hF _ _ _ hP hD hS (lv_sub hl [0, 1, 2, 3, 4, 5, 6, 7, 8, 9, 10] rfl)
    · have hF := q_if_f c_2 hF
      refine lv_iload hx hb dL_law_2248 (lv_at hl 8 rfl) ?_
      refine lv_if_le (tgt := 2350) hx hb dL_law_2250 (by decide) (fun c_3 => ?_) (fun c_3 => ?_)
      · have hF := q_if_t c_3 hF
        exact kk (v22_1, v25_1, v26_1) hF _ _ _ hP hD hS (lv_sub hl [0, 1, 2, 3, 4, 5, 6, 7, 8, 9, 10] rfl)
      · have hF := q_if_f c_3 hF
        refine lv_iload hx hb dL_law_2253 (lv_at hl 9 rfl) ?_
        refine lv_iconst (v := 2) hx hb dL_law_2255 (by decide) ?_
        refine lv_irem hx hb dL_law_2256 (by decide) ?_
        refine lv_if_ne (tgt := 2264) hx hb dL_law_2257 (by decide) (fun c_4 => ?_) (fun c_4 => ?_)
        · have hF := q_if_f c_4 hF
          refine lv_iconst (v := 0) hx hb dL_law_2264 (by decide) ?_
          refine lv_iload hx hb dL_law_2265 (lv_at hl 6 rfl) ?_
          refine lv_icmp_ne (tgt := 2278) hx hb dL_law_2267 (by decide) (fun c_5 => ?_) (fun c_5 => ?_)
          · have hF := q_if_f c_5 hF
            refine lv_iconst (v := 1) hx hb dL_law_2278 (by decide) ?_
            refine lv_aload_n hx hb dL_law_2279 rfl (lv_at hl 0 rfl) ?_
            refine lv_iload hx hb dL_law_2280 (lv_at hl 9 rfl) ?_
            refine lv_bipush (v := 40) hx hb dL_law_2282 (by decide) ?_
            refine lv_iadd hx hb dL_law_2284 ?_
            refine lv_iload hx hb dL_law_2285 (lv_at hl 8 rfl) ?_
            refine lv_iload hx hb dL_law_2287 (lv_at hl 5 rfl) ?_
            refine lv_icmp_ge (tgt := 2297) hx hb dL_law_2289 (by decide) (fun c_6 => ?_) (fun c_6 => ?_)
            · have hF := q_if_t c_6 hF
              refine lv_iload hx hb dL_law_2297 (lv_at hl 5 rfl) ?_
              obtain ⟨r_7, h_8, hF⟩ := q_cl_s hF
              refine gcX (As := [.ref b, .int (v26_1 + 40), .int v22_1]) (rest := [.int 1]) F hX hbl hbA hS (m_L_cell l b L xs (v26_1 + 40) v22_1 r_7 h_8) gL_law_L_cell kL_cell rfl rfl rfl ⟨(Nat.le_of_ble_eq_true rfl), (Nat.le_of_ble_eq_true rfl)⟩ rfl rfl hl.1 (Nat.le_of_ble_eq_true rfl) dL_law_2299 ⟨(Nat.le_of_ble_eq_true rfl), (Nat.le_of_ble_eq_true rfl)⟩ ?_
              refine lv_iadd hx hb dL_law_2302 ?_
              obtain ⟨v28_9, e_10, hF⟩ := q_bd_s hF
              refine gtop e_10 ?_
              refine lv_istore (lv' := [(28, .int v28_9), (0, .ref b), (2, .int v2), (4, .int v4), (7, .int v7), (9, .int v9), (22, .int v22_1), (23, .int v23), (24, .int v24), (25, .int v25_1), (26, .int v26_1), (27, .ref qE)]) hx hb dL_law_2303 hl (by decide) rfl (fun ls hl => ?_)
              refine lv_iload hx hb dL_law_2305 (lv_at hl 0 rfl) ?_
              refine lv_iload hx hb dL_law_2307 (lv_at hl 9 rfl) ?_
              refine lv_icmp_gt (tgt := 2329) hx hb dL_law_2309 (by decide) (fun c_11 => ?_) (fun c_11 => ?_)
              · have hF := q_if_t c_11 hF
                refine lv_iconst (v := 0) hx hb dL_law_2329 (by decide) ?_
                exact absurd hF (by decide)
              · have hF := q_if_f c_11 hF
                refine lv_iload hx hb dL_law_2312 (lv_at hl 10 rfl) ?_
                refine lv_if_ne (tgt := 2331) hx hb dL_law_2314 (by decide) (fun c_12 => ?_) (fun c_12 => ?_)
                · have hF := q_if_f c_12 hF
                  refine lv_iload hx hb dL_law_2331 (lv_at hl 6 rfl) ?_
                  refine lv_iload hx hb dL_law_2333 (lv_at hl 0 rfl) ?_
                  refine lv_isub hx hb dL_law_2335 ?_
                  obtain ⟨v22_13, e_14, hF⟩ := q_bd_s hF
                  refine gtop e_14 ?_
                  refine lv_istore (lv' := [(22, .int v22_13), (28, .int v28_9), (0, .ref b), (2, .int v2), (4, .int v4), (7, .int v7), (9, .int v9), (23, .int v23), (24, .int v24), (25, .int v25_1), (26, .int v26_1), (27, .ref qE)]) hx hb dL_law_2336 hl (by decide) rfl (fun ls hl => ?_)
                  refine lv_iconst (v := 2) hx hb dL_law_2338 (by decide) ?_
                  refine lv_iload hx hb dL_law_2339 (lv_at hl 1 rfl) ?_
                  refine lv_imul hx hb dL_law_2341 ?_
                  obtain ⟨v25_15, e_16, hF⟩ := q_bd_s hF
                  refine gtop e_16 ?_
                  refine lv_istore (lv' := [(25, .int v25_15), (22, .int v22_13), (28, .int v28_9), (0, .ref b), (2, .int v2), (4, .int v4), (7, .int v7), (9, .int v9), (23, .int v23), (24, .int v24), (26, .int v26_1), (27, .ref qE)]) hx hb dL_law_2342 hl (by decide) rfl (fun ls hl => ?_)
                  refine lv_iinc (v := v26_1 + 1) (lv' := [(26, .int (v26_1 + 1)), (25, .int v25_15), (22, .int v22_13), (28, .int v28_9), (0, .ref b), (2, .int v2), (4, .int v4), (7, .int v7), (9, .int v9), (23, .int v23), (24, .int v24), (27, .ref qE)]) hx hb dL_law_2344 hl (k := 10) rfl rfl (by decide) rfl (fun ls hl => ?_)
                  refine lv_goto (tgt := 2243) hx hb dL_law_2347 (by decide) ?_
                  exact ag (v22_13, v25_15, v26_1 + 1) hF _ _ _ hP hD hS (lv_sub hl [4, 5, 6, 7, 8, 2, 9, 10, 1, 0, 11] rfl)
                · have hF := q_if_t (by first | exact c_12 | exact Classical.not_not.mp c_12) hF
                  refine lv_iload hx hb dL_law_2317 (lv_at hl 7 rfl) ?_
                  refine lv_if_eq (tgt := 2331) hx hb dL_law_2319 (by decide) (fun c_17 => ?_) (fun c_17 => ?_)
                  · have hF := q_if_t c_17 hF
                    refine lv_iload hx hb dL_law_2331 (lv_at hl 6 rfl) ?_
                    refine lv_iload hx hb dL_law_2333 (lv_at hl 0 rfl) ?_
                    refine lv_isub hx hb dL_law_2335 ?_
                    obtain ⟨v22_18, e_19, hF⟩ := q_bd_s hF
                    refine gtop e_19 ?_
                    refine lv_istore (lv' := [(22, .int v22_18), (28, .int v28_9), (0, .ref b), (2, .int v2), (4, .int v4), (7, .int v7), (9, .int v9), (23, .int v23), (24, .int v24), (25, .int v25_1), (26, .int v26_1), (27, .ref qE)]) hx hb dL_law_2336 hl (by decide) rfl (fun ls hl => ?_)
                    refine lv_iconst (v := 2) hx hb dL_law_2338 (by decide) ?_
                    refine lv_iload hx hb dL_law_2339 (lv_at hl 1 rfl) ?_
                    refine lv_imul hx hb dL_law_2341 ?_
                    obtain ⟨v25_20, e_21, hF⟩ := q_bd_s hF
                    refine gtop e_21 ?_
                    refine lv_istore (lv' := [(25, .int v25_20), (22, .int v22_18), (28, .int v28_9), (0, .ref b), (2, .int v2), (4, .int v4), (7, .int v7), (9, .int v9), (23, .int v23), (24, .int v24), (26, .int v26_1), (27, .ref qE)]) hx hb dL_law_2342 hl (by decide) rfl (fun ls hl => ?_)
                    refine lv_iinc (v := v26_1 + 1) (lv' := [(26, .int (v26_1 + 1)), (25, .int v25_20), (22, .int v22_18), (28, .int v28_9), (0, .ref b), (2, .int v2), (4, .int v4), (7, .int v7), (9, .int v9), (23, .int v23), (24, .int v24), (27, .ref qE)]) hx hb dL_law_2344 hl (k := 10) rfl rfl (by decide) rfl (fun ls hl => ?_)
                    refine lv_goto (tgt := 2243) hx hb dL_law_2347 (by decide) ?_
                    exact ag (v22_18, v25_20, v26_1 + 1) hF _ _ _ hP hD hS (lv_sub hl [4, 5, 6, 7, 8, 2, 9, 10, 1, 0, 11] rfl)
                  · have hF := q_if_f c_17 hF
                    refine lv_iload hx hb dL_law_2322 (lv_at hl 0 rfl) ?_
                    refine lv_iload hx hb dL_law_2324 (lv_at hl 8 rfl) ?_
                    refine lv_icmp_eq (tgt := 2331) hx hb dL_law_2326 (by decide) (fun c_22 => ?_) (fun c_22 => ?_)
                    · have hF := q_if_t c_22 hF
                      refine lv_iload hx hb dL_law_2331 (lv_at hl 6 rfl) ?_
                      refine lv_iload hx hb dL_law_2333 (lv_at hl 0 rfl) ?_
                      refine lv_isub hx hb dL_law_2335 ?_
                      obtain ⟨v22_23, e_24, hF⟩ := q_bd_s hF
                      refine gtop e_24 ?_
                      refine lv_istore (lv' := [(22, .int v22_23), (28, .int v28_9), (0, .ref b), (2, .int v2), (4, .int v4), (7, .int v7), (9, .int v9), (23, .int v23), (24, .int v24), (25, .int v25_1), (26, .int v26_1), (27, .ref qE)]) hx hb dL_law_2336 hl (by decide) rfl (fun ls hl => ?_)
                      refine lv_iconst (v := 2) hx hb dL_law_2338 (by decide) ?_
                      refine lv_iload hx hb dL_law_2339 (lv_at hl 1 rfl) ?_
                      refine lv_imul hx hb dL_law_2341 ?_
                      obtain ⟨v25_25, e_26, hF⟩ := q_bd_s hF
                      refine gtop e_26 ?_
                      refine lv_istore (lv' := [(25, .int v25_25), (22, .int v22_23), (28, .int v28_9), (0, .ref b), (2, .int v2), (4, .int v4), (7, .int v7), (9, .int v9), (23, .int v23), (24, .int v24), (26, .int v26_1), (27, .ref qE)]) hx hb dL_law_2342 hl (by decide) rfl (fun ls hl => ?_)
                      refine lv_iinc (v := v26_1 + 1) (lv' := [(26, .int (v26_1 + 1)), (25, .int v25_25), (22, .int v22_23), (28, .int v28_9), (0, .ref b), (2, .int v2), (4, .int v4), (7, .int v7), (9, .int v9), (23, .int v23), (24, .int v24), (27, .ref qE)]) hx hb dL_law_2344 hl (k := 10) rfl rfl (by decide) rfl (fun ls hl => ?_)
                      refine lv_goto (tgt := 2243) hx hb dL_law_2347 (by decide) ?_
                      exact ag (v22_23, v25_25, v26_1 + 1) hF _ _ _ hP hD hS (lv_sub hl [4, 5, 6, 7, 8, 2, 9, 10, 1, 0, 11] rfl)
                    · have hF := q_if_f c_22 hF
                      refine lv_iconst (v := 0) hx hb dL_law_2329 (by decide) ?_
                      exact absurd hF (by decide)
            · have hF := q_if_f c_6 hF
              refine lv_iload hx hb dL_law_2292 (lv_at hl 8 rfl) ?_
              refine lv_goto (tgt := 2299) hx hb dL_law_2294 (by decide) ?_
              obtain ⟨r_27, h_28, hF⟩ := q_cl_s hF
              refine gcX (As := [.ref b, .int (v26_1 + 40), .int v25_1]) (rest := [.int 1]) F hX hbl hbA hS (m_L_cell l b L xs (v26_1 + 40) v25_1 r_27 h_28) gL_law_L_cell kL_cell rfl rfl rfl ⟨(Nat.le_of_ble_eq_true rfl), (Nat.le_of_ble_eq_true rfl)⟩ rfl rfl hl.1 (Nat.le_of_ble_eq_true rfl) dL_law_2299 ⟨(Nat.le_of_ble_eq_true rfl), (Nat.le_of_ble_eq_true rfl)⟩ ?_
              refine lv_iadd hx hb dL_law_2302 ?_
              obtain ⟨v28_29, e_30, hF⟩ := q_bd_s hF
              refine gtop e_30 ?_
              refine lv_istore (lv' := [(28, .int v28_29), (0, .ref b), (2, .int v2), (4, .int v4), (7, .int v7), (9, .int v9), (22, .int v22_1), (23, .int v23), (24, .int v24), (25, .int v25_1), (26, .int v26_1), (27, .ref qE)]) hx hb dL_law_2303 hl (by decide) rfl (fun ls hl => ?_)
              refine lv_iload hx hb dL_law_2305 (lv_at hl 0 rfl) ?_
              refine lv_iload hx hb dL_law_2307 (lv_at hl 9 rfl) ?_
              refine lv_icmp_gt (tgt := 2329) hx hb dL_law_2309 (by decide) (fun c_31 => ?_) (fun c_31 => ?_)
              · have hF := q_if_t c_31 hF
                refine lv_iconst (v := 0) hx hb dL_law_2329 (by decide) ?_
                exact absurd hF (by decide)
              · have hF := q_if_f c_31 hF
                refine lv_iload hx hb dL_law_2312 (lv_at hl 10 rfl) ?_
                refine lv_if_ne (tgt := 2331) hx hb dL_law_2314 (by decide) (fun c_32 => ?_) (fun c_32 => ?_)
                · have hF := q_if_f c_32 hF
                  refine lv_iload hx hb dL_law_2331 (lv_at hl 6 rfl) ?_
                  refine lv_iload hx hb dL_law_2333 (lv_at hl 0 rfl) ?_
                  refine lv_isub hx hb dL_law_2335 ?_
                  obtain ⟨v22_33, e_34, hF⟩ := q_bd_s hF
                  refine gtop e_34 ?_
                  refine lv_istore (lv' := [(22, .int v22_33), (28, .int v28_29), (0, .ref b), (2, .int v2), (4, .int v4), (7, .int v7), (9, .int v9), (23, .int v23), (24, .int v24), (25, .int v25_1), (26, .int v26_1), (27, .ref qE)]) hx hb dL_law_2336 hl (by decide) rfl (fun ls hl => ?_)
                  refine lv_iconst (v := 2) hx hb dL_law_2338 (by decide) ?_
                  refine lv_iload hx hb dL_law_2339 (lv_at hl 1 rfl) ?_
                  refine lv_imul hx hb dL_law_2341 ?_
                  obtain ⟨v25_35, e_36, hF⟩ := q_bd_s hF
                  refine gtop e_36 ?_
                  refine lv_istore (lv' := [(25, .int v25_35), (22, .int v22_33), (28, .int v28_29), (0, .ref b), (2, .int v2), (4, .int v4), (7, .int v7), (9, .int v9), (23, .int v23), (24, .int v24), (26, .int v26_1), (27, .ref qE)]) hx hb dL_law_2342 hl (by decide) rfl (fun ls hl => ?_)
                  refine lv_iinc (v := v26_1 + 1) (lv' := [(26, .int (v26_1 + 1)), (25, .int v25_35), (22, .int v22_33), (28, .int v28_29), (0, .ref b), (2, .int v2), (4, .int v4), (7, .int v7), (9, .int v9), (23, .int v23), (24, .int v24), (27, .ref qE)]) hx hb dL_law_2344 hl (k := 10) rfl rfl (by decide) rfl (fun ls hl => ?_)
                  refine lv_goto (tgt := 2243) hx hb dL_law_2347 (by decide) ?_
                  exact ag (v22_33, v25_35, v26_1 + 1) hF _ _ _ hP hD hS (lv_sub hl [4, 5, 6, 7, 8, 2, 9, 10, 1, 0, 11] rfl)
                · have hF := q_if_t (by first | exact c_32 | exact Classical.not_not.mp c_32) hF
                  refine lv_iload hx hb dL_law_2317 (lv_at hl 7 rfl) ?_
                  refine lv_if_eq (tgt := 2331) hx hb dL_law_2319 (by decide) (fun c_37 => ?_) (fun c_37 => ?_)
                  · have hF := q_if_t c_37 hF
                    refine lv_iload hx hb dL_law_2331 (lv_at hl 6 rfl) ?_
                    refine lv_iload hx hb dL_law_2333 (lv_at hl 0 rfl) ?_
                    refine lv_isub hx hb dL_law_2335 ?_
                    obtain ⟨v22_38, e_39, hF⟩ := q_bd_s hF
                    refine gtop e_39 ?_
                    refine lv_istore (lv' := [(22, .int v22_38), (28, .int v28_29), (0, .ref b), (2, .int v2), (4, .int v4), (7, .int v7), (9, .int v9), (23, .int v23), (24, .int v24), (25, .int v25_1), (26, .int v26_1), (27, .ref qE)]) hx hb dL_law_2336 hl (by decide) rfl (fun ls hl => ?_)
                    refine lv_iconst (v := 2) hx hb dL_law_2338 (by decide) ?_
                    refine lv_iload hx hb dL_law_2339 (lv_at hl 1 rfl) ?_
                    refine lv_imul hx hb dL_law_2341 ?_
                    obtain ⟨v25_40, e_41, hF⟩ := q_bd_s hF
                    refine gtop e_41 ?_
                    refine lv_istore (lv' := [(25, .int v25_40), (22, .int v22_38), (28, .int v28_29), (0, .ref b), (2, .int v2), (4, .int v4), (7, .int v7), (9, .int v9), (23, .int v23), (24, .int v24), (26, .int v26_1), (27, .ref qE)]) hx hb dL_law_2342 hl (by decide) rfl (fun ls hl => ?_)
                    refine lv_iinc (v := v26_1 + 1) (lv' := [(26, .int (v26_1 + 1)), (25, .int v25_40), (22, .int v22_38), (28, .int v28_29), (0, .ref b), (2, .int v2), (4, .int v4), (7, .int v7), (9, .int v9), (23, .int v23), (24, .int v24), (27, .ref qE)]) hx hb dL_law_2344 hl (k := 10) rfl rfl (by decide) rfl (fun ls hl => ?_)
                    refine lv_goto (tgt := 2243) hx hb dL_law_2347 (by decide) ?_
                    exact ag (v22_38, v25_40, v26_1 + 1) hF _ _ _ hP hD hS (lv_sub hl [4, 5, 6, 7, 8, 2, 9, 10, 1, 0, 11] rfl)
                  · have hF := q_if_f c_37 hF
                    refine lv_iload hx hb dL_law_2322 (lv_at hl 0 rfl) ?_
                    refine lv_iload hx hb dL_law_2324 (lv_at hl 8 rfl) ?_
                    refine lv_icmp_eq (tgt := 2331) hx hb dL_law_2326 (by decide) (fun c_42 => ?_) (fun c_42 => ?_)
                    · have hF := q_if_t c_42 hF
                      refine lv_iload hx hb dL_law_2331 (lv_at hl 6 rfl) ?_
                      refine lv_iload hx hb dL_law_2333 (lv_at hl 0 rfl) ?_
                      refine lv_isub hx hb dL_law_2335 ?_
                      obtain ⟨v22_43, e_44, hF⟩ := q_bd_s hF
                      refine gtop e_44 ?_
                      refine lv_istore (lv' := [(22, .int v22_43), (28, .int v28_29), (0, .ref b), (2, .int v2), (4, .int v4), (7, .int v7), (9, .int v9), (23, .int v23), (24, .int v24), (25, .int v25_1), (26, .int v26_1), (27, .ref qE)]) hx hb dL_law_2336 hl (by decide) rfl (fun ls hl => ?_)
                      refine lv_iconst (v := 2) hx hb dL_law_2338 (by decide) ?_
                      refine lv_iload hx hb dL_law_2339 (lv_at hl 1 rfl) ?_
                      refine lv_imul hx hb dL_law_2341 ?_
                      obtain ⟨v25_45, e_46, hF⟩ := q_bd_s hF
                      refine gtop e_46 ?_
                      refine lv_istore (lv' := [(25, .int v25_45), (22, .int v22_43), (28, .int v28_29), (0, .ref b), (2, .int v2), (4, .int v4), (7, .int v7), (9, .int v9), (23, .int v23), (24, .int v24), (26, .int v26_1), (27, .ref qE)]) hx hb dL_law_2342 hl (by decide) rfl (fun ls hl => ?_)
                      refine lv_iinc (v := v26_1 + 1) (lv' := [(26, .int (v26_1 + 1)), (25, .int v25_45), (22, .int v22_43), (28, .int v28_29), (0, .ref b), (2, .int v2), (4, .int v4), (7, .int v7), (9, .int v9), (23, .int v23), (24, .int v24), (27, .ref qE)]) hx hb dL_law_2344 hl (k := 10) rfl rfl (by decide) rfl (fun ls hl => ?_)
                      refine lv_goto (tgt := 2243) hx hb dL_law_2347 (by decide) ?_
                      exact ag (v22_43, v25_45, v26_1 + 1) hF _ _ _ hP hD hS (lv_sub hl [4, 5, 6, 7, 8, 2, 9, 10, 1, 0, 11] rfl)
                    · have hF := q_if_f c_42 hF
                      refine lv_iconst (v := 0) hx hb dL_law_2329 (by decide) ?_
                      exact absurd hF (by decide)
          · have hF := q_if_t (by first | exact c_5 | exact Classical.not_not.mp c_5) hF
            refine lv_aload hx hb dL_law_2270 (lv_at hl 10 rfl) ?_
            refine lv_iload hx hb dL_law_2272 (lv_at hl 5 rfl) ?_
            obtain ⟨r_47, i_48, e_49, hF⟩ := q_rd_s hF
            refine r_iald (v := r_47) hx hb hK hP 32 rfl i_48 e_49 dL_law_2274 ?_
            refine lv_goto (tgt := 2303) hx hb dL_law_2275 (by decide) ?_
            refine lv_istore (lv' := [(28, .int r_47), (0, .ref b), (2, .int v2), (4, .int v4), (7, .int v7), (9, .int v9), (22, .int v22_1), (23, .int v23), (24, .int v24), (25, .int v25_1), (26, .int v26_1), (27, .ref qE)]) hx hb dL_law_2303 hl (by decide) rfl (fun ls hl => ?_)
            refine lv_iload hx hb dL_law_2305 (lv_at hl 0 rfl) ?_
            refine lv_iload hx hb dL_law_2307 (lv_at hl 9 rfl) ?_
            refine lv_icmp_gt (tgt := 2329) hx hb dL_law_2309 (by decide) (fun c_50 => ?_) (fun c_50 => ?_)
            · have hF := q_if_t c_50 hF
              refine lv_iconst (v := 0) hx hb dL_law_2329 (by decide) ?_
              exact absurd hF (by decide)
            · have hF := q_if_f c_50 hF
              refine lv_iload hx hb dL_law_2312 (lv_at hl 10 rfl) ?_
              refine lv_if_ne (tgt := 2331) hx hb dL_law_2314 (by decide) (fun c_51 => ?_) (fun c_51 => ?_)
              · have hF := q_if_f c_51 hF
                refine lv_iload hx hb dL_law_2331 (lv_at hl 6 rfl) ?_
                refine lv_iload hx hb dL_law_2333 (lv_at hl 0 rfl) ?_
                refine lv_isub hx hb dL_law_2335 ?_
                obtain ⟨v22_52, e_53, hF⟩ := q_bd_s hF
                refine gtop e_53 ?_
                refine lv_istore (lv' := [(22, .int v22_52), (28, .int r_47), (0, .ref b), (2, .int v2), (4, .int v4), (7, .int v7), (9, .int v9), (23, .int v23), (24, .int v24), (25, .int v25_1), (26, .int v26_1), (27, .ref qE)]) hx hb dL_law_2336 hl (by decide) rfl (fun ls hl => ?_)
                refine lv_iconst (v := 2) hx hb dL_law_2338 (by decide) ?_
                refine lv_iload hx hb dL_law_2339 (lv_at hl 1 rfl) ?_
                refine lv_imul hx hb dL_law_2341 ?_
                obtain ⟨v25_54, e_55, hF⟩ := q_bd_s hF
                refine gtop e_55 ?_
                refine lv_istore (lv' := [(25, .int v25_54), (22, .int v22_52), (28, .int r_47), (0, .ref b), (2, .int v2), (4, .int v4), (7, .int v7), (9, .int v9), (23, .int v23), (24, .int v24), (26, .int v26_1), (27, .ref qE)]) hx hb dL_law_2342 hl (by decide) rfl (fun ls hl => ?_)
                refine lv_iinc (v := v26_1 + 1) (lv' := [(26, .int (v26_1 + 1)), (25, .int v25_54), (22, .int v22_52), (28, .int r_47), (0, .ref b), (2, .int v2), (4, .int v4), (7, .int v7), (9, .int v9), (23, .int v23), (24, .int v24), (27, .ref qE)]) hx hb dL_law_2344 hl (k := 10) rfl rfl (by decide) rfl (fun ls hl => ?_)
                refine lv_goto (tgt := 2243) hx hb dL_law_2347 (by decide) ?_
                exact ag (v22_52, v25_54, v26_1 + 1) hF _ _ _ hP hD hS (lv_sub hl [4, 5, 6, 7, 8, 2, 9, 10, 1, 0, 11] rfl)
              · have hF := q_if_t (by first | exact c_51 | exact Classical.not_not.mp c_51) hF
                refine lv_iload hx hb dL_law_2317 (lv_at hl 7 rfl) ?_
                refine lv_if_eq (tgt := 2331) hx hb dL_law_2319 (by decide) (fun c_56 => ?_) (fun c_56 => ?_)
                · have hF := q_if_t c_56 hF
                  refine lv_iload hx hb dL_law_2331 (lv_at hl 6 rfl) ?_
                  refine lv_iload hx hb dL_law_2333 (lv_at hl 0 rfl) ?_
                  refine lv_isub hx hb dL_law_2335 ?_
                  obtain ⟨v22_57, e_58, hF⟩ := q_bd_s hF
                  refine gtop e_58 ?_
                  refine lv_istore (lv' := [(22, .int v22_57), (28, .int r_47), (0, .ref b), (2, .int v2), (4, .int v4), (7, .int v7), (9, .int v9), (23, .int v23), (24, .int v24), (25, .int v25_1), (26, .int v26_1), (27, .ref qE)]) hx hb dL_law_2336 hl (by decide) rfl (fun ls hl => ?_)
                  refine lv_iconst (v := 2) hx hb dL_law_2338 (by decide) ?_
                  refine lv_iload hx hb dL_law_2339 (lv_at hl 1 rfl) ?_
                  refine lv_imul hx hb dL_law_2341 ?_
                  obtain ⟨v25_59, e_60, hF⟩ := q_bd_s hF
                  refine gtop e_60 ?_
                  refine lv_istore (lv' := [(25, .int v25_59), (22, .int v22_57), (28, .int r_47), (0, .ref b), (2, .int v2), (4, .int v4), (7, .int v7), (9, .int v9), (23, .int v23), (24, .int v24), (26, .int v26_1), (27, .ref qE)]) hx hb dL_law_2342 hl (by decide) rfl (fun ls hl => ?_)
                  refine lv_iinc (v := v26_1 + 1) (lv' := [(26, .int (v26_1 + 1)), (25, .int v25_59), (22, .int v22_57), (28, .int r_47), (0, .ref b), (2, .int v2), (4, .int v4), (7, .int v7), (9, .int v9), (23, .int v23), (24, .int v24), (27, .ref qE)]) hx hb dL_law_2344 hl (k := 10) rfl rfl (by decide) rfl (fun ls hl => ?_)
                  refine lv_goto (tgt := 2243) hx hb dL_law_2347 (by decide) ?_
                  exact ag (v22_57, v25_59, v26_1 + 1) hF _ _ _ hP hD hS (lv_sub hl [4, 5, 6, 7, 8, 2, 9, 10, 1, 0, 11] rfl)
                · have hF := q_if_f c_56 hF
                  refine lv_iload hx hb dL_law_2322 (lv_at hl 0 rfl) ?_
                  refine lv_iload hx hb dL_law_2324 (lv_at hl 8 rfl) ?_
                  refine lv_icmp_eq (tgt := 2331) hx hb dL_law_2326 (by decide) (fun c_61 => ?_) (fun c_61 => ?_)
                  · have hF := q_if_t c_61 hF
                    refine lv_iload hx hb dL_law_2331 (lv_at hl 6 rfl) ?_
                    refine lv_iload hx hb dL_law_2333 (lv_at hl 0 rfl) ?_
                    refine lv_isub hx hb dL_law_2335 ?_
                    obtain ⟨v22_62, e_63, hF⟩ := q_bd_s hF
                    refine gtop e_63 ?_
                    refine lv_istore (lv' := [(22, .int v22_62), (28, .int r_47), (0, .ref b), (2, .int v2), (4, .int v4), (7, .int v7), (9, .int v9), (23, .int v23), (24, .int v24), (25, .int v25_1), (26, .int v26_1), (27, .ref qE)]) hx hb dL_law_2336 hl (by decide) rfl (fun ls hl => ?_)
                    refine lv_iconst (v := 2) hx hb dL_law_2338 (by decide) ?_
                    refine lv_iload hx hb dL_law_2339 (lv_at hl 1 rfl) ?_
                    refine lv_imul hx hb dL_law_2341 ?_
                    obtain ⟨v25_64, e_65, hF⟩ := q_bd_s hF
                    refine gtop e_65 ?_
                    refine lv_istore (lv' := [(25, .int v25_64), (22, .int v22_62), (28, .int r_47), (0, .ref b), (2, .int v2), (4, .int v4), (7, .int v7), (9, .int v9), (23, .int v23), (24, .int v24), (26, .int v26_1), (27, .ref qE)]) hx hb dL_law_2342 hl (by decide) rfl (fun ls hl => ?_)
                    refine lv_iinc (v := v26_1 + 1) (lv' := [(26, .int (v26_1 + 1)), (25, .int v25_64), (22, .int v22_62), (28, .int r_47), (0, .ref b), (2, .int v2), (4, .int v4), (7, .int v7), (9, .int v9), (23, .int v23), (24, .int v24), (27, .ref qE)]) hx hb dL_law_2344 hl (k := 10) rfl rfl (by decide) rfl (fun ls hl => ?_)
                    refine lv_goto (tgt := 2243) hx hb dL_law_2347 (by decide) ?_
                    exact ag (v22_62, v25_64, v26_1 + 1) hF _ _ _ hP hD hS (lv_sub hl [4, 5, 6, 7, 8, 2, 9, 10, 1, 0, 11] rfl)
                  · have hF := q_if_f c_61 hF
                    refine lv_iconst (v := 0) hx hb dL_law_2329 (by decide) ?_
                    exact absurd hF (by decide)
        · have hF := q_if_t (by first | exact c_4 | exact Classical.not_not.mp c_4) hF
          refine lv_iconst (v := 1) hx hb dL_law_2260 (by decide) ?_
          refine lv_goto (tgt := 2265) hx hb dL_law_2261 (by decide) ?_
          refine lv_iload hx hb dL_law_2265 (lv_at hl 6 rfl) ?_
          refine lv_icmp_ne (tgt := 2278) hx hb dL_law_2267 (by decide) (fun c_66 => ?_) (fun c_66 => ?_)
          · have hF := q_if_f c_66 hF
            refine lv_iconst (v := 1) hx hb dL_law_2278 (by decide) ?_
            refine lv_aload_n hx hb dL_law_2279 rfl (lv_at hl 0 rfl) ?_
            refine lv_iload hx hb dL_law_2280 (lv_at hl 9 rfl) ?_
            refine lv_bipush (v := 40) hx hb dL_law_2282 (by decide) ?_
            refine lv_iadd hx hb dL_law_2284 ?_
            refine lv_iload hx hb dL_law_2285 (lv_at hl 8 rfl) ?_
            refine lv_iload hx hb dL_law_2287 (lv_at hl 5 rfl) ?_
            refine lv_icmp_ge (tgt := 2297) hx hb dL_law_2289 (by decide) (fun c_67 => ?_) (fun c_67 => ?_)
            · have hF := q_if_t c_67 hF
              refine lv_iload hx hb dL_law_2297 (lv_at hl 5 rfl) ?_
              obtain ⟨r_68, h_69, hF⟩ := q_cl_s hF
              refine gcX (As := [.ref b, .int (v26_1 + 40), .int v22_1]) (rest := [.int 1]) F hX hbl hbA hS (m_L_cell l b L xs (v26_1 + 40) v22_1 r_68 h_69) gL_law_L_cell kL_cell rfl rfl rfl ⟨(Nat.le_of_ble_eq_true rfl), (Nat.le_of_ble_eq_true rfl)⟩ rfl rfl hl.1 (Nat.le_of_ble_eq_true rfl) dL_law_2299 ⟨(Nat.le_of_ble_eq_true rfl), (Nat.le_of_ble_eq_true rfl)⟩ ?_
              refine lv_iadd hx hb dL_law_2302 ?_
              obtain ⟨v28_70, e_71, hF⟩ := q_bd_s hF
              refine gtop e_71 ?_
              refine lv_istore (lv' := [(28, .int v28_70), (0, .ref b), (2, .int v2), (4, .int v4), (7, .int v7), (9, .int v9), (22, .int v22_1), (23, .int v23), (24, .int v24), (25, .int v25_1), (26, .int v26_1), (27, .ref qE)]) hx hb dL_law_2303 hl (by decide) rfl (fun ls hl => ?_)
              refine lv_iload hx hb dL_law_2305 (lv_at hl 0 rfl) ?_
              refine lv_iload hx hb dL_law_2307 (lv_at hl 9 rfl) ?_
              refine lv_icmp_gt (tgt := 2329) hx hb dL_law_2309 (by decide) (fun c_72 => ?_) (fun c_72 => ?_)
              · have hF := q_if_t c_72 hF
                refine lv_iconst (v := 0) hx hb dL_law_2329 (by decide) ?_
                exact absurd hF (by decide)
              · have hF := q_if_f c_72 hF
                refine lv_iload hx hb dL_law_2312 (lv_at hl 10 rfl) ?_
                refine lv_if_ne (tgt := 2331) hx hb dL_law_2314 (by decide) (fun c_73 => ?_) (fun c_73 => ?_)
                · have hF := q_if_f c_73 hF
                  refine lv_iload hx hb dL_law_2331 (lv_at hl 6 rfl) ?_
                  refine lv_iload hx hb dL_law_2333 (lv_at hl 0 rfl) ?_
                  refine lv_isub hx hb dL_law_2335 ?_
                  obtain ⟨v22_74, e_75, hF⟩ := q_bd_s hF
                  refine gtop e_75 ?_
                  refine lv_istore (lv' := [(22, .int v22_74), (28, .int v28_70), (0, .ref b), (2, .int v2), (4, .int v4), (7, .int v7), (9, .int v9), (23, .int v23), (24, .int v24), (25, .int v25_1), (26, .int v26_1), (27, .ref qE)]) hx hb dL_law_2336 hl (by decide) rfl (fun ls hl => ?_)
                  refine lv_iconst (v := 2) hx hb dL_law_2338 (by decide) ?_
                  refine lv_iload hx hb dL_law_2339 (lv_at hl 1 rfl) ?_
                  refine lv_imul hx hb dL_law_2341 ?_
                  obtain ⟨v25_76, e_77, hF⟩ := q_bd_s hF
                  refine gtop e_77 ?_
                  refine lv_istore (lv' := [(25, .int v25_76), (22, .int v22_74), (28, .int v28_70), (0, .ref b), (2, .int v2), (4, .int v4), (7, .int v7), (9, .int v9), (23, .int v23), (24, .int v24), (26, .int v26_1), (27, .ref qE)]) hx hb dL_law_2342 hl (by decide) rfl (fun ls hl => ?_)
                  refine lv_iinc (v := v26_1 + 1) (lv' := [(26, .int (v26_1 + 1)), (25, .int v25_76), (22, .int v22_74), (28, .int v28_70), (0, .ref b), (2, .int v2), (4, .int v4), (7, .int v7), (9, .int v9), (23, .int v23), (24, .int v24), (27, .ref qE)]) hx hb dL_law_2344 hl (k := 10) rfl rfl (by decide) rfl (fun ls hl => ?_)
                  refine lv_goto (tgt := 2243) hx hb dL_law_2347 (by decide) ?_
                  exact ag (v22_74, v25_76, v26_1 + 1) hF _ _ _ hP hD hS (lv_sub hl [4, 5, 6, 7, 8, 2, 9, 10, 1, 0, 11] rfl)
                · have hF := q_if_t (by first | exact c_73 | exact Classical.not_not.mp c_73) hF
                  refine lv_iload hx hb dL_law_2317 (lv_at hl 7 rfl) ?_
                  refine lv_if_eq (tgt := 2331) hx hb dL_law_2319 (by decide) (fun c_78 => ?_) (fun c_78 => ?_)
                  · have hF := q_if_t c_78 hF
                    refine lv_iload hx hb dL_law_2331 (lv_at hl 6 rfl) ?_
                    refine lv_iload hx hb dL_law_2333 (lv_at hl 0 rfl) ?_
                    refine lv_isub hx hb dL_law_2335 ?_
                    obtain ⟨v22_79, e_80, hF⟩ := q_bd_s hF
                    refine gtop e_80 ?_
                    refine lv_istore (lv' := [(22, .int v22_79), (28, .int v28_70), (0, .ref b), (2, .int v2), (4, .int v4), (7, .int v7), (9, .int v9), (23, .int v23), (24, .int v24), (25, .int v25_1), (26, .int v26_1), (27, .ref qE)]) hx hb dL_law_2336 hl (by decide) rfl (fun ls hl => ?_)
                    refine lv_iconst (v := 2) hx hb dL_law_2338 (by decide) ?_
                    refine lv_iload hx hb dL_law_2339 (lv_at hl 1 rfl) ?_
                    refine lv_imul hx hb dL_law_2341 ?_
                    obtain ⟨v25_81, e_82, hF⟩ := q_bd_s hF
                    refine gtop e_82 ?_
                    refine lv_istore (lv' := [(25, .int v25_81), (22, .int v22_79), (28, .int v28_70), (0, .ref b), (2, .int v2), (4, .int v4), (7, .int v7), (9, .int v9), (23, .int v23), (24, .int v24), (26, .int v26_1), (27, .ref qE)]) hx hb dL_law_2342 hl (by decide) rfl (fun ls hl => ?_)
                    refine lv_iinc (v := v26_1 + 1) (lv' := [(26, .int (v26_1 + 1)), (25, .int v25_81), (22, .int v22_79), (28, .int v28_70), (0, .ref b), (2, .int v2), (4, .int v4), (7, .int v7), (9, .int v9), (23, .int v23), (24, .int v24), (27, .ref qE)]) hx hb dL_law_2344 hl (k := 10) rfl rfl (by decide) rfl (fun ls hl => ?_)
                    refine lv_goto (tgt := 2243) hx hb dL_law_2347 (by decide) ?_
                    exact ag (v22_79, v25_81, v26_1 + 1) hF _ _ _ hP hD hS (lv_sub hl [4, 5, 6, 7, 8, 2, 9, 10, 1, 0, 11] rfl)
                  · have hF := q_if_f c_78 hF
                    refine lv_iload hx hb dL_law_2322 (lv_at hl 0 rfl) ?_
                    refine lv_iload hx hb dL_law_2324 (lv_at hl 8 rfl) ?_
                    refine lv_icmp_eq (tgt := 2331) hx hb dL_law_2326 (by decide) (fun c_83 => ?_) (fun c_83 => ?_)
                    · have hF := q_if_t c_83 hF
                      refine lv_iload hx hb dL_law_2331 (lv_at hl 6 rfl) ?_
                      refine lv_iload hx hb dL_law_2333 (lv_at hl 0 rfl) ?_
                      refine lv_isub hx hb dL_law_2335 ?_
                      obtain ⟨v22_84, e_85, hF⟩ := q_bd_s hF
                      refine gtop e_85 ?_
                      refine lv_istore (lv' := [(22, .int v22_84), (28, .int v28_70), (0, .ref b), (2, .int v2), (4, .int v4), (7, .int v7), (9, .int v9), (23, .int v23), (24, .int v24), (25, .int v25_1), (26, .int v26_1), (27, .ref qE)]) hx hb dL_law_2336 hl (by decide) rfl (fun ls hl => ?_)
                      refine lv_iconst (v := 2) hx hb dL_law_2338 (by decide) ?_
                      refine lv_iload hx hb dL_law_2339 (lv_at hl 1 rfl) ?_
                      refine lv_imul hx hb dL_law_2341 ?_
                      obtain ⟨v25_86, e_87, hF⟩ := q_bd_s hF
                      refine gtop e_87 ?_
                      refine lv_istore (lv' := [(25, .int v25_86), (22, .int v22_84), (28, .int v28_70), (0, .ref b), (2, .int v2), (4, .int v4), (7, .int v7), (9, .int v9), (23, .int v23), (24, .int v24), (26, .int v26_1), (27, .ref qE)]) hx hb dL_law_2342 hl (by decide) rfl (fun ls hl => ?_)
                      refine lv_iinc (v := v26_1 + 1) (lv' := [(26, .int (v26_1 + 1)), (25, .int v25_86), (22, .int v22_84), (28, .int v28_70), (0, .ref b), (2, .int v2), (4, .int v4), (7, .int v7), (9, .int v9), (23, .int v23), (24, .int v24), (27, .ref qE)]) hx hb dL_law_2344 hl (k := 10) rfl rfl (by decide) rfl (fun ls hl => ?_)
                      refine lv_goto (tgt := 2243) hx hb dL_law_2347 (by decide) ?_
                      exact ag (v22_84, v25_86, v26_1 + 1) hF _ _ _ hP hD hS (lv_sub hl [4, 5, 6, 7, 8, 2, 9, 10, 1, 0, 11] rfl)
                    · have hF := q_if_f c_83 hF
                      refine lv_iconst (v := 0) hx hb dL_law_2329 (by decide) ?_
                      exact absurd hF (by decide)
            · have hF := q_if_f c_67 hF
              refine lv_iload hx hb dL_law_2292 (lv_at hl 8 rfl) ?_
              refine lv_goto (tgt := 2299) hx hb dL_law_2294 (by decide) ?_
              obtain ⟨r_88, h_89, hF⟩ := q_cl_s hF
              refine gcX (As := [.ref b, .int (v26_1 + 40), .int v25_1]) (rest := [.int 1]) F hX hbl hbA hS (m_L_cell l b L xs (v26_1 + 40) v25_1 r_88 h_89) gL_law_L_cell kL_cell rfl rfl rfl ⟨(Nat.le_of_ble_eq_true rfl), (Nat.le_of_ble_eq_true rfl)⟩ rfl rfl hl.1 (Nat.le_of_ble_eq_true rfl) dL_law_2299 ⟨(Nat.le_of_ble_eq_true rfl), (Nat.le_of_ble_eq_true rfl)⟩ ?_
              refine lv_iadd hx hb dL_law_2302 ?_
              obtain ⟨v28_90, e_91, hF⟩ := q_bd_s hF
              refine gtop e_91 ?_
              refine lv_istore (lv' := [(28, .int v28_90), (0, .ref b), (2, .int v2), (4, .int v4), (7, .int v7), (9, .int v9), (22, .int v22_1), (23, .int v23), (24, .int v24), (25, .int v25_1), (26, .int v26_1), (27, .ref qE)]) hx hb dL_law_2303 hl (by decide) rfl (fun ls hl => ?_)
              refine lv_iload hx hb dL_law_2305 (lv_at hl 0 rfl) ?_
              refine lv_iload hx hb dL_law_2307 (lv_at hl 9 rfl) ?_
              refine lv_icmp_gt (tgt := 2329) hx hb dL_law_2309 (by decide) (fun c_92 => ?_) (fun c_92 => ?_)
              · have hF := q_if_t c_92 hF
                refine lv_iconst (v := 0) hx hb dL_law_2329 (by decide) ?_
                exact absurd hF (by decide)
              · have hF := q_if_f c_92 hF
                refine lv_iload hx hb dL_law_2312 (lv_at hl 10 rfl) ?_
                refine lv_if_ne (tgt := 2331) hx hb dL_law_2314 (by decide) (fun c_93 => ?_) (fun c_93 => ?_)
                · have hF := q_if_f c_93 hF
                  refine lv_iload hx hb dL_law_2331 (lv_at hl 6 rfl) ?_
                  refine lv_iload hx hb dL_law_2333 (lv_at hl 0 rfl) ?_
                  refine lv_isub hx hb dL_law_2335 ?_
                  obtain ⟨v22_94, e_95, hF⟩ := q_bd_s hF
                  refine gtop e_95 ?_
                  refine lv_istore (lv' := [(22, .int v22_94), (28, .int v28_90), (0, .ref b), (2, .int v2), (4, .int v4), (7, .int v7), (9, .int v9), (23, .int v23), (24, .int v24), (25, .int v25_1), (26, .int v26_1), (27, .ref qE)]) hx hb dL_law_2336 hl (by decide) rfl (fun ls hl => ?_)
                  refine lv_iconst (v := 2) hx hb dL_law_2338 (by decide) ?_
                  refine lv_iload hx hb dL_law_2339 (lv_at hl 1 rfl) ?_
                  refine lv_imul hx hb dL_law_2341 ?_
                  obtain ⟨v25_96, e_97, hF⟩ := q_bd_s hF
                  refine gtop e_97 ?_
                  refine lv_istore (lv' := [(25, .int v25_96), (22, .int v22_94), (28, .int v28_90), (0, .ref b), (2, .int v2), (4, .int v4), (7, .int v7), (9, .int v9), (23, .int v23), (24, .int v24), (26, .int v26_1), (27, .ref qE)]) hx hb dL_law_2342 hl (by decide) rfl (fun ls hl => ?_)
                  refine lv_iinc (v := v26_1 + 1) (lv' := [(26, .int (v26_1 + 1)), (25, .int v25_96), (22, .int v22_94), (28, .int v28_90), (0, .ref b), (2, .int v2), (4, .int v4), (7, .int v7), (9, .int v9), (23, .int v23), (24, .int v24), (27, .ref qE)]) hx hb dL_law_2344 hl (k := 10) rfl rfl (by decide) rfl (fun ls hl => ?_)
                  refine lv_goto (tgt := 2243) hx hb dL_law_2347 (by decide) ?_
                  exact ag (v22_94, v25_96, v26_1 + 1) hF _ _ _ hP hD hS (lv_sub hl [4, 5, 6, 7, 8, 2, 9, 10, 1, 0, 11] rfl)
                · have hF := q_if_t (by first | exact c_93 | exact Classical.not_not.mp c_93) hF
                  refine lv_iload hx hb dL_law_2317 (lv_at hl 7 rfl) ?_
                  refine lv_if_eq (tgt := 2331) hx hb dL_law_2319 (by decide) (fun c_98 => ?_) (fun c_98 => ?_)
                  · have hF := q_if_t c_98 hF
                    refine lv_iload hx hb dL_law_2331 (lv_at hl 6 rfl) ?_
                    refine lv_iload hx hb dL_law_2333 (lv_at hl 0 rfl) ?_
                    refine lv_isub hx hb dL_law_2335 ?_
                    obtain ⟨v22_99, e_100, hF⟩ := q_bd_s hF
                    refine gtop e_100 ?_
                    refine lv_istore (lv' := [(22, .int v22_99), (28, .int v28_90), (0, .ref b), (2, .int v2), (4, .int v4), (7, .int v7), (9, .int v9), (23, .int v23), (24, .int v24), (25, .int v25_1), (26, .int v26_1), (27, .ref qE)]) hx hb dL_law_2336 hl (by decide) rfl (fun ls hl => ?_)
                    refine lv_iconst (v := 2) hx hb dL_law_2338 (by decide) ?_
                    refine lv_iload hx hb dL_law_2339 (lv_at hl 1 rfl) ?_
                    refine lv_imul hx hb dL_law_2341 ?_
                    obtain ⟨v25_101, e_102, hF⟩ := q_bd_s hF
                    refine gtop e_102 ?_
                    refine lv_istore (lv' := [(25, .int v25_101), (22, .int v22_99), (28, .int v28_90), (0, .ref b), (2, .int v2), (4, .int v4), (7, .int v7), (9, .int v9), (23, .int v23), (24, .int v24), (26, .int v26_1), (27, .ref qE)]) hx hb dL_law_2342 hl (by decide) rfl (fun ls hl => ?_)
                    refine lv_iinc (v := v26_1 + 1) (lv' := [(26, .int (v26_1 + 1)), (25, .int v25_101), (22, .int v22_99), (28, .int v28_90), (0, .ref b), (2, .int v2), (4, .int v4), (7, .int v7), (9, .int v9), (23, .int v23), (24, .int v24), (27, .ref qE)]) hx hb dL_law_2344 hl (k := 10) rfl rfl (by decide) rfl (fun ls hl => ?_)
                    refine lv_goto (tgt := 2243) hx hb dL_law_2347 (by decide) ?_
                    exact ag (v22_99, v25_101, v26_1 + 1) hF _ _ _ hP hD hS (lv_sub hl [4, 5, 6, 7, 8, 2, 9, 10, 1, 0, 11] rfl)
                  · have hF := q_if_f c_98 hF
                    refine lv_iload hx hb dL_law_2322 (lv_at hl 0 rfl) ?_
                    refine lv_iload hx hb dL_law_2324 (lv_at hl 8 rfl) ?_
                    refine lv_icmp_eq (tgt := 2331) hx hb dL_law_2326 (by decide) (fun c_103 => ?_) (fun c_103 => ?_)
                    · have hF := q_if_t c_103 hF
                      refine lv_iload hx hb dL_law_2331 (lv_at hl 6 rfl) ?_
                      refine lv_iload hx hb dL_law_2333 (lv_at hl 0 rfl) ?_
                      refine lv_isub hx hb dL_law_2335 ?_
                      obtain ⟨v22_104, e_105, hF⟩ := q_bd_s hF
                      refine gtop e_105 ?_
                      refine lv_istore (lv' := [(22, .int v22_104), (28, .int v28_90), (0, .ref b), (2, .int v2), (4, .int v4), (7, .int v7), (9, .int v9), (23, .int v23), (24, .int v24), (25, .int v25_1), (26, .int v26_1), (27, .ref qE)]) hx hb dL_law_2336 hl (by decide) rfl (fun ls hl => ?_)
                      refine lv_iconst (v := 2) hx hb dL_law_2338 (by decide) ?_
                      refine lv_iload hx hb dL_law_2339 (lv_at hl 1 rfl) ?_
                      refine lv_imul hx hb dL_law_2341 ?_
                      obtain ⟨v25_106, e_107, hF⟩ := q_bd_s hF
                      refine gtop e_107 ?_
                      refine lv_istore (lv' := [(25, .int v25_106), (22, .int v22_104), (28, .int v28_90), (0, .ref b), (2, .int v2), (4, .int v4), (7, .int v7), (9, .int v9), (23, .int v23), (24, .int v24), (26, .int v26_1), (27, .ref qE)]) hx hb dL_law_2342 hl (by decide) rfl (fun ls hl => ?_)
                      refine lv_iinc (v := v26_1 + 1) (lv' := [(26, .int (v26_1 + 1)), (25, .int v25_106), (22, .int v22_104), (28, .int v28_90), (0, .ref b), (2, .int v2), (4, .int v4), (7, .int v7), (9, .int v9), (23, .int v23), (24, .int v24), (27, .ref qE)]) hx hb dL_law_2344 hl (k := 10) rfl rfl (by decide) rfl (fun ls hl => ?_)
                      refine lv_goto (tgt := 2243) hx hb dL_law_2347 (by decide) ?_
                      exact ag (v22_104, v25_106, v26_1 + 1) hF _ _ _ hP hD hS (lv_sub hl [4, 5, 6, 7, 8, 2, 9, 10, 1, 0, 11] rfl)
                    · have hF := q_if_f c_103 hF
                      refine lv_iconst (v := 0) hx hb dL_law_2329 (by decide) ?_
                      exact absurd hF (by decide)
          · have hF := q_if_t (by first | exact c_66 | exact Classical.not_not.mp c_66) hF
            refine lv_aload hx hb dL_law_2270 (lv_at hl 10 rfl) ?_
            refine lv_iload hx hb dL_law_2272 (lv_at hl 5 rfl) ?_
            obtain ⟨r_108, i_109, e_110, hF⟩ := q_rd_s hF
            refine r_iald (v := r_108) hx hb hK hP 32 rfl i_109 e_110 dL_law_2274 ?_
            refine lv_goto (tgt := 2303) hx hb dL_law_2275 (by decide) ?_
            refine lv_istore (lv' := [(28, .int r_108), (0, .ref b), (2, .int v2), (4, .int v4), (7, .int v7), (9, .int v9), (22, .int v22_1), (23, .int v23), (24, .int v24), (25, .int v25_1), (26, .int v26_1), (27, .ref qE)]) hx hb dL_law_2303 hl (by decide) rfl (fun ls hl => ?_)
            refine lv_iload hx hb dL_law_2305 (lv_at hl 0 rfl) ?_
            refine lv_iload hx hb dL_law_2307 (lv_at hl 9 rfl) ?_
            refine lv_icmp_gt (tgt := 2329) hx hb dL_law_2309 (by decide) (fun c_111 => ?_) (fun c_111 => ?_)
            · have hF := q_if_t c_111 hF
              refine lv_iconst (v := 0) hx hb dL_law_2329 (by decide) ?_
              exact absurd hF (by decide)
            · have hF := q_if_f c_111 hF
              refine lv_iload hx hb dL_law_2312 (lv_at hl 10 rfl) ?_
              refine lv_if_ne (tgt := 2331) hx hb dL_law_2314 (by decide) (fun c_112 => ?_) (fun c_112 => ?_)
              · have hF := q_if_f c_112 hF
                refine lv_iload hx hb dL_law_2331 (lv_at hl 6 rfl) ?_
                refine lv_iload hx hb dL_law_2333 (lv_at hl 0 rfl) ?_
                refine lv_isub hx hb dL_law_2335 ?_
                obtain ⟨v22_113, e_114, hF⟩ := q_bd_s hF
                refine gtop e_114 ?_
                refine lv_istore (lv' := [(22, .int v22_113), (28, .int r_108), (0, .ref b), (2, .int v2), (4, .int v4), (7, .int v7), (9, .int v9), (23, .int v23), (24, .int v24), (25, .int v25_1), (26, .int v26_1), (27, .ref qE)]) hx hb dL_law_2336 hl (by decide) rfl (fun ls hl => ?_)
                refine lv_iconst (v := 2) hx hb dL_law_2338 (by decide) ?_
                refine lv_iload hx hb dL_law_2339 (lv_at hl 1 rfl) ?_
                refine lv_imul hx hb dL_law_2341 ?_
                obtain ⟨v25_115, e_116, hF⟩ := q_bd_s hF
                refine gtop e_116 ?_
                refine lv_istore (lv' := [(25, .int v25_115), (22, .int v22_113), (28, .int r_108), (0, .ref b), (2, .int v2), (4, .int v4), (7, .int v7), (9, .int v9), (23, .int v23), (24, .int v24), (26, .int v26_1), (27, .ref qE)]) hx hb dL_law_2342 hl (by decide) rfl (fun ls hl => ?_)
                refine lv_iinc (v := v26_1 + 1) (lv' := [(26, .int (v26_1 + 1)), (25, .int v25_115), (22, .int v22_113), (28, .int r_108), (0, .ref b), (2, .int v2), (4, .int v4), (7, .int v7), (9, .int v9), (23, .int v23), (24, .int v24), (27, .ref qE)]) hx hb dL_law_2344 hl (k := 10) rfl rfl (by decide) rfl (fun ls hl => ?_)
                refine lv_goto (tgt := 2243) hx hb dL_law_2347 (by decide) ?_
                exact ag (v22_113, v25_115, v26_1 + 1) hF _ _ _ hP hD hS (lv_sub hl [4, 5, 6, 7, 8, 2, 9, 10, 1, 0, 11] rfl)
              · have hF := q_if_t (by first | exact c_112 | exact Classical.not_not.mp c_112) hF
                refine lv_iload hx hb dL_law_2317 (lv_at hl 7 rfl) ?_
                refine lv_if_eq (tgt := 2331) hx hb dL_law_2319 (by decide) (fun c_117 => ?_) (fun c_117 => ?_)
                · have hF := q_if_t c_117 hF
                  refine lv_iload hx hb dL_law_2331 (lv_at hl 6 rfl) ?_
                  refine lv_iload hx hb dL_law_2333 (lv_at hl 0 rfl) ?_
                  refine lv_isub hx hb dL_law_2335 ?_
                  obtain ⟨v22_118, e_119, hF⟩ := q_bd_s hF
                  refine gtop e_119 ?_
                  refine lv_istore (lv' := [(22, .int v22_118), (28, .int r_108), (0, .ref b), (2, .int v2), (4, .int v4), (7, .int v7), (9, .int v9), (23, .int v23), (24, .int v24), (25, .int v25_1), (26, .int v26_1), (27, .ref qE)]) hx hb dL_law_2336 hl (by decide) rfl (fun ls hl => ?_)
                  refine lv_iconst (v := 2) hx hb dL_law_2338 (by decide) ?_
                  refine lv_iload hx hb dL_law_2339 (lv_at hl 1 rfl) ?_
                  refine lv_imul hx hb dL_law_2341 ?_
                  obtain ⟨v25_120, e_121, hF⟩ := q_bd_s hF
                  refine gtop e_121 ?_
                  refine lv_istore (lv' := [(25, .int v25_120), (22, .int v22_118), (28, .int r_108), (0, .ref b), (2, .int v2), (4, .int v4), (7, .int v7), (9, .int v9), (23, .int v23), (24, .int v24), (26, .int v26_1), (27, .ref qE)]) hx hb dL_law_2342 hl (by decide) rfl (fun ls hl => ?_)
                  refine lv_iinc (v := v26_1 + 1) (lv' := [(26, .int (v26_1 + 1)), (25, .int v25_120), (22, .int v22_118), (28, .int r_108), (0, .ref b), (2, .int v2), (4, .int v4), (7, .int v7), (9, .int v9), (23, .int v23), (24, .int v24), (27, .ref qE)]) hx hb dL_law_2344 hl (k := 10) rfl rfl (by decide) rfl (fun ls hl => ?_)
                  refine lv_goto (tgt := 2243) hx hb dL_law_2347 (by decide) ?_
                  exact ag (v22_118, v25_120, v26_1 + 1) hF _ _ _ hP hD hS (lv_sub hl [4, 5, 6, 7, 8, 2, 9, 10, 1, 0, 11] rfl)
                · have hF := q_if_f c_117 hF
                  refine lv_iload hx hb dL_law_2322 (lv_at hl 0 rfl) ?_
                  refine lv_iload hx hb dL_law_2324 (lv_at hl 8 rfl) ?_
                  refine lv_icmp_eq (tgt := 2331) hx hb dL_law_2326 (by decide) (fun c_122 => ?_) (fun c_122 => ?_)
                  · have hF := q_if_t c_122 hF
                    refine lv_iload hx hb dL_law_2331 (lv_at hl 6 rfl) ?_
                    refine lv_iload hx hb dL_law_2333 (lv_at hl 0 rfl) ?_
                    refine lv_isub hx hb dL_law_2335 ?_
                    obtain ⟨v22_123, e_124, hF⟩ := q_bd_s hF
                    refine gtop e_124 ?_
                    refine lv_istore (lv' := [(22, .int v22_123), (28, .int r_108), (0, .ref b), (2, .int v2), (4, .int v4), (7, .int v7), (9, .int v9), (23, .int v23), (24, .int v24), (25, .int v25_1), (26, .int v26_1), (27, .ref qE)]) hx hb dL_law_2336 hl (by decide) rfl (fun ls hl => ?_)
                    refine lv_iconst (v := 2) hx hb dL_law_2338 (by decide) ?_
                    refine lv_iload hx hb dL_law_2339 (lv_at hl 1 rfl) ?_
                    refine lv_imul hx hb dL_law_2341 ?_
                    obtain ⟨v25_125, e_126, hF⟩ := q_bd_s hF
                    refine gtop e_126 ?_
                    refine lv_istore (lv' := [(25, .int v25_125), (22, .int v22_123), (28, .int r_108), (0, .ref b), (2, .int v2), (4, .int v4), (7, .int v7), (9, .int v9), (23, .int v23), (24, .int v24), (26, .int v26_1), (27, .ref qE)]) hx hb dL_law_2342 hl (by decide) rfl (fun ls hl => ?_)
                    refine lv_iinc (v := v26_1 + 1) (lv' := [(26, .int (v26_1 + 1)), (25, .int v25_125), (22, .int v22_123), (28, .int r_108), (0, .ref b), (2, .int v2), (4, .int v4), (7, .int v7), (9, .int v9), (23, .int v23), (24, .int v24), (27, .ref qE)]) hx hb dL_law_2344 hl (k := 10) rfl rfl (by decide) rfl (fun ls hl => ?_)
                    refine lv_goto (tgt := 2243) hx hb dL_law_2347 (by decide) ?_
                    exact ag (v22_123, v25_125, v26_1 + 1) hF _ _ _ hP hD hS (lv_sub hl [4, 5, 6, 7, 8, 2, 9, 10, 1, 0, 11] rfl)
                  · have hF := q_if_f c_122 hF
                    refine lv_iconst (v := 0) hx hb dL_law_2329 (by decide) ?_
                    exact absurd hF (by decide)
