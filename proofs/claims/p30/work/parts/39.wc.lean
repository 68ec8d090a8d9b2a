set_option maxHeartbeats 32000000 in
set_option maxRecDepth 100000 in
theorem gs_2167 {p : Program} {l : Launch} {e : Env} {s : State} {m : MethodId} {below : List Frame} {meth : Method} {c : Code} {b : Nat} {g : GT} {Z : Nat → Prop} {H : Heap} {locs : List Loc} {ls : Array Slot} {qH qX : Nat} {AX AC AD AP AW AY AK : Nat → Nat} {L : Nat} {xs : Nat → Int32} {σC : qS} {σD : qS} {σP : qS} {σN : qS} {σW : qS} {σY : qS} {σK : qS} {ℓK : qL} {σH : qS} {v2 : Int32} {v4 : Int32} {v7 : Int32} {v9 : Int32} {v22 : Int32} {v23 : Int32} {v24 : Int32} {v25 : Int32} {v26 : Int32}
    (hx : p.tables.exec = Jvm.exec) (hb : c.code = cL_law) (hr : meth.sig.returnType = ret) (hlocks : meth.locks = false) (F : CallFix p m c cL_law 30 s #[Value.ref b] wsL_law RL) (hK : va_K g.1 vwCl (tyL g) s) (hN : NW s) (hA : ∀ q : Nat, s.heap.size ≤ q → Z q) (hZ : Z = fun q => s.heap.size ≤ q) (hbA : ¬ Z b) (hX : va_X b L xs s s.heap) (hbl : b < s.heap.size) (hF : g_2167 L xs σC σD σP σN σW σY σK ℓK σH v2 v4 v7 v9 v22 v23 v24 v25 v26 = some 1)
    (hP : va_P g.1 vwCl (wX6 qX AX ++ wX1 g (AX 0) AC σC ++ wX1 g (AX 1) AD σD ++ wX3 g (AX 3) AP σP ++ wX2 (AX 4) σN ++ wX5 g (AX 5) AW (.ref qH) σW ++ wX4 g (AX 6) AY σY ++ wX0 g (AX 7) AK σK ℓK ++ wH g qH σH) H) (hD : va_D Z (wX6 qX AX ++ wX1 g (AX 0) AC σC ++ wX1 g (AX 1) AD σD ++ wX3 g (AX 3) AP σP ++ wX2 (AX 4) σN ++ wX5 g (AX 5) AW (.ref qH) σW ++ wX4 g (AX 6) AY σY ++ wX0 g (AX 7) AK σK ℓK ++ wH g qH σH)) (hS : va_S Z s.heap H locs) (hl : lv_has ls 30 [(0, .ref b), (2, .int v2), (4, .int v4), (7, .int v7), (9, .int v9), (22, .int v22), (23, .int v23), (24, .int v24), (25, .int v25), (26, .int v26)]) : W p l e room_1 s m #[Value.ref b] below meth c H locs 200 40000 (lw_Z below #[Value.ref b] s) (F0 m 2167 ls []) := by
  have hts := F.2.2.2.2
  have hown : s.vm.findClass RL = some m.cls := F.2.2.2.1
  dsimp only [g_2167] at hF
  refine lv_bipush (v := 61) hx hb dL_law_2167 (by decide) ?_
  refine r_newI (N' := 61) hx hb (hts (.arrayClass .int) arrI_in) hK hP hD hS hA (by decide) (nI_clamp (n := 61) (by decide)) (Nat.le_of_ble_eq_true rfl) (Nat.le_of_ble_eq_true rfl) (Nat.le_of_ble_eq_true rfl) dL_law_2169 (fun q_1 H hP hD hS => ?_)
  have hP : va_P g.1 vwCl (wX6 qX AX ++ wX1 g (AX 0) AC σC ++ wX1 g (AX 1) AD σD ++ wX3 g (AX 3) AP σP ++ wX2 (AX 4) σN ++ wX5 g (AX 5) AW (.ref qH) σW ++ wX4 g (AX 6) AY σY ++ wX0 g (AX 7) AK σK ℓK ++ wH g qH σH ++ wR g q_1 61 (fun _ _ => 0)) H := hP
  have hD : va_D Z (wX6 qX AX ++ wX1 g (AX 0) AC σC ++ wX1 g (AX 1) AD σD ++ wX3 g (AX 3) AP σP ++ wX2 (AX 4) σN ++ wX5 g (AX 5) AW (.ref qH) σW ++ wX4 g (AX 6) AY σY ++ wX0 g (AX 7) AK σK ℓK ++ wH g qH σH ++ wR g q_1 61 (fun _ _ => 0)) := hD
  refine W.widen (k := 201) (n := 40061) (by decide) (by decide) ?_
  refine lv_astore (lv' := [(27, .ref q_1), (0, .ref b), (2, .int v2), (4, .int v4), (7, .int v7), (9, .int v9), (22, .int v22), (23, .int v23), (24, .int v24), (25, .int v25), (26, .int v26)]) hx hb dL_law_2171 hl (by decide) rfl (fun ls hl => ?_)
  refine lv_iconst (v := 1) hx hb dL_law_2173 (by decide) ?_
  refine lv_istore (lv' := [(28, .int 1), (27, .ref q_1), (0, .ref b), (2, .int v2), (4, .int v4), (7, .int v7), (9, .int v9), (22, .int v22), (23, .int v23), (24, .int v24), (25, .int v25), (26, .int v26)]) hx hb dL_law_2174 hl (by decide) rfl (fun ls hl => ?_)
  refine q_loop (fun u0 => wX6 qX AX ++ wX1 g (AX 0) AC σC ++ wX1 g (AX 1) AD σD ++ wX3 g (AX 3) AP σP ++ wX2 (AX 4) σN ++ wX5 g (AX 5) AW (.ref qH) σW ++ wX4 g (AX 6) AY σY ++ wX0 g (AX 7) AK σK ℓK ++ wH g qH σH ++ wR g q_1 61 u0.2) (fun u0 => [(28, .int u0.1), (27, .ref q_1), (0, .ref b), (2, .int v2), (4, .int v4), (7, .int v7), (9, .int v9), (22, .int v22), (23, .int v23), (24, .int v24), (25, .int v25), (26, .int v26)]) 2243 hF ?_ ?_ (by exact hP) (by exact hD) hS (lv_sub hl [0, 1, 2, 3, 4, 5, 6, 7, 8, 9, 10, 11] rfl)
  · rintro ⟨v28_2, σE_2⟩ hF H locs ls hP hD hS hl
    try dsimp only at hF
    have hP : va_P g.1 vwCl (wX6 qX AX ++ wX1 g (AX 0) AC σC ++ wX1 g (AX 1) AD σD ++ wX3 g (AX 3) AP σP ++ wX2 (AX 4) σN ++ wX5 g (AX 5) AW (.ref qH) σW ++ wX4 g (AX 6) AY σY ++ wX0 g (AX 7) AK σK ℓK ++ wH g qH σH ++ wR g q_1 61 σE_2) H := hP
    have hD : va_D Z (wX6 qX AX ++ wX1 g (AX 0) AC σC ++ wX1 g (AX 1) AD σD ++ wX3 g (AX 3) AP σP ++ wX2 (AX 4) σN ++ wX5 g (AX 5) AW (.ref qH) σW ++ wX4 g (AX 6) AY σY ++ wX0 g (AX 7) AK σK ℓK ++ wH g qH σH ++ wR g q_1 61 σE_2) := hD
    have hl : lv_has ls 30 [(28, .int v28_2), (27, .ref q_1), (0, .ref b), (2, .int v2), (4, .int v4), (7, .int v7), (9, .int v9), (22, .int v22), (23, .int v23), (24, .int v24), (25, .int v25), (26, .int v26)] := hl
    refine W.widen (k := 300) (n := 60000) (by decide) (by decide) ?_
    exact gs_2243 hx hb hr hlocks F hK hN hA hZ hbA hX hbl hF hP hD hS (lv_sub hl [2, 3, 4, 5, 6, 7, 8, 9, 10, 11, 1] rfl)
  · rintro k again kk ag ⟨v28_2, σE_2⟩ hF H locs ls hP hD hS hl
    dsimp only [b_L_law_2176] at hF
    have hP : va_P g.1 vwCl (wX6 qX AX ++ wX1 g (AX 0) AC σC ++ wX1 g (AX 1) AD σD ++ wX3 g (AX 3) AP σP ++ wX2 (AX 4) σN ++ wX5 g (AX 5) AW (.ref qH) σW ++ wX4 g (AX 6) AY σY ++ wX0 g (AX 7) AK σK ℓK ++ wH g qH σH ++ wR g q_1 61 σE_2) H := hP
    have hD : va_D Z (wX6 qX AX ++ wX1 g (AX 0) AC σC ++ wX1 g (AX 1) AD σD ++ wX3 g (AX 3) AP σP ++ wX2 (AX 4) σN ++ wX5 g (AX 5) AW (.ref qH) σW ++ wX4 g (AX 6) AY σY ++ wX0 g (AX 7) AK σK ℓK ++ wH g qH σH ++ wR g q_1 61 σE_2) := hD
    have hl : lv_has ls 30 [(28, .int v28_2), (27, .ref q_1), (0, .ref b), (2, .int v2), (4, .int v4), (7, .int v7), (9, .int v9), (22, .int v22), (23, .int v23), (24, .int v24), (25, .int v25), (26, .int v26)] := hl
    refine lv_iload hx hb dL_law_2176 (lv_at hl 0 rfl) ?_
    refine lv_bipush (v := 61) hx hb dL_law_2178 (by decide) ?_
    refine lv_icmp_ge (tgt := 2243) hx hb dL_law_2180 (by decide) (fun c_3 => ?_) (fun c_3 => ?_)
    · have hF := q_if_t c_3 hF
      exact kk (v28_2, σE_2) hF _ _ _ hP hD hS (lv_sub hl [0, 1, 2, 3, 4, 5, 6, 7, 8, 9, 10, 11] rfl)
    · have hF := q_if_f c_3 hF
      refine lv_aload hx hb dL_law_2183 (lv_at hl 1 rfl) ?_
      refine lv_iload hx hb dL_law_2185 (lv_at hl 0 rfl) ?_
      refine lv_iload hx hb dL_law_2187 (lv_at hl 0 rfl) ?_
      obtain ⟨σE_4, i_5, e_6, hF⟩ := q_wr_s hF
      refine r_iast (f' := upd (σE_2 0) v28_2.toNatClampNeg v28_2) hx hb hK hP hD hS 32 rfl i_5 (fun _ _ => rfl) dL_law_2189 (fun H locs hP hD hS => ?_)
      have hP : va_P g.1 vwCl (wX6 qX AX ++ wX1 g (AX 0) AC σC ++ wX1 g (AX 1) AD σD ++ wX3 g (AX 3) AP σP ++ wX2 (AX 4) σN ++ wX5 g (AX 5) AW (.ref qH) σW ++ wX4 g (AX 6) AY σY ++ wX0 g (AX 7) AK σK ℓK ++ wH g qH σH ++ wR g q_1 61 (q_up σE_2 0 (upd (σE_2 0) v28_2.toNatClampNeg v28_2))) H := hP
      have hD : va_D Z (wX6 qX AX ++ wX1 g (AX 0) AC σC ++ wX1 g (AX 1) AD σD ++ wX3 g (AX 3) AP σP ++ wX2 (AX 4) σN ++ wX5 g (AX 5) AW (.ref qH) σW ++ wX4 g (AX 6) AY σY ++ wX0 g (AX 7) AK σK ℓK ++ wH g qH σH ++ wR g q_1 61 (q_up σE_2 0 (upd (σE_2 0) v28_2.toNatClampNeg v28_2))) := hD
      rw [e_6] at hP hD
      refine lv_iload hx hb dL_law_2190 (lv_at hl 0 rfl) ?_
      refine lv_iconst (v := 1) hx hb dL_law_2192 (by decide) ?_
      refine lv_isub hx hb dL_law_2193 ?_
      obtain ⟨v29_7, e_8, hF⟩ := q_bd_s hF
      refine gtop e_8 ?_
      refine lv_istore (lv' := [(29, .int v29_7), (28, .int v28_2), (27, .ref q_1), (0, .ref b), (2, .int v2), (4, .int v4), (7, .int v7), (9, .int v9), (22, .int v22), (23, .int v23), (24, .int v24), (25, .int v25), (26, .int v26)]) hx hb dL_law_2194 hl (by decide) rfl (fun ls hl => ?_)
      refine q_loop (fun u0 => wX6 qX AX ++ wX1 g (AX 0) AC σC ++ wX1 g (AX 1) AD σD ++ wX3 g (AX 3) AP σP ++ wX2 (AX 4) σN ++ wX5 g (AX 5) AW (.ref qH) σW ++ wX4 g (AX 6) AY σY ++ wX0 g (AX 7) AK σK ℓK ++ wH g qH σH ++ wR g q_1 61 u0.2) (fun u0 => [(29, .int u0.1), (28, .int v28_2), (27, .ref q_1), (0, .ref b), (2, .int v2), (4, .int v4), (7, .int v7), (9, .int v9), (22, .int v22), (23, .int v23), (24, .int v24), (25, .int v25), (26, .int v26)]) 2237 hF ?_ ?_ (by exact hP) (by exact hD) hS (lv_sub hl [0, 1, 2, 3, 4, 5, 6, 7, 8, 9, 10, 11, 12] rfl)
      · rintro ⟨v29_9, σE_9⟩ hF H locs ls hP hD hS hl
        try dsimp only at hF
        have hP : va_P g.1 vwCl (wX6 qX AX ++ wX1 g (AX 0) AC σC ++ wX1 g (AX 1) AD σD ++ wX3 g (AX 3) AP σP ++ wX2 (AX 4) σN ++ wX5 g (AX 5) AW (.ref qH) σW ++ wX4 g (AX 6) AY σY ++ wX0 g (AX 7) AK σK ℓK ++ wH g qH σH ++ wR g q_1 61 σE_9) H := hP
        have hD : va_D Z (wX6 qX AX ++ wX1 g (AX 0) AC σC ++ wX1 g (AX 1) AD σD ++ wX3 g (AX 3) AP σP ++ wX2 (AX 4) σN ++ wX5 g (AX 5) AW (.ref qH) σW ++ wX4 g (AX 6) AY σY ++ wX0 g (AX 7) AK σK ℓK ++ wH g qH σH ++ wR g q_1 61 σE_9) := hD
        have hl : lv_has ls 30 [(29, .int v29_9), (28, .int v28_2), (27, .ref q_1), (0, .ref b), (2, .int v2), (4, .int v4), (7, .int v7), (9, .int v9), (22, .int v22), (23, .int v23), (24, .int v24), (25, .int v25), (26, .int v26)] := hl
        refine lv_iinc (v := v28_2 + 1) (lv' := [(28, .int (v28_2 + 1)), (29, .int v29_9), (27, .ref q_1), (0, .ref b), (2, .int v2), (4, .int v4), (7, .int v7), (9, .int v9), (22, .int v22), (23, .int v23), (24, .int v24), (25, .int v25), (26, .int v26)]) hx hb dL_law_2237 hl (k := 1) rfl rfl (by decide) rfl (fun ls hl => ?_)
        refine lv_goto (tgt := 2176) hx hb dL_law_2240 (by decide) ?_
        exact ag (v28_2 + 1, σE_9) hF _ _ _ hP hD hS (lv_sub hl [0, 2, 3, 4, 5, 6, 7, 8, 9, 10, 11, 12] rfl)
      · rintro k again kk ag ⟨v29_9, σE_9⟩ hF H locs ls hP hD hS hl
        dsimp only [b_L_law_2196] at hF
        have hP : va_P g.1 vwCl (wX6 qX AX ++ wX1 g (AX 0) AC σC ++ wX1 g (AX 1) AD σD ++ wX3 g (AX 3) AP σP ++ wX2 (AX 4) σN ++ wX5 g (AX 5) AW (.ref qH) σW ++ wX4 g (AX 6) AY σY ++ wX0 g (AX 7) AK σK ℓK ++ wH g qH σH ++ wR g q_1 61 σE_9) H := hP
        have hD : va_D Z (wX6 qX AX ++ wX1 g (AX 0) AC σC ++ wX1 g (AX 1) AD σD ++ wX3 g (AX 3) AP σP ++ wX2 (AX 4) σN ++ wX5 g (AX 5) AW (.ref qH) σW ++ wX4 g (AX 6) AY σY ++ wX0 g (AX 7) AK σK ℓK ++ wH g qH σH ++ wR g q_1 61 σE_9) := hD
        have hl : lv_has ls 30 [(29, .int v29_9), (28, .int v28_2), (27, .ref q_1), (0, .ref b), (2, .int v2), (4, .int v4), (7, .int v7), (9, .int v9), (22, .int v22), (23, .int v23), (24, .int v24), (25, .int v25), (26, .int v26)] := hl
        refine lv_iload hx hb dL_law_2196 (lv_at hl 0 rfl) ?_
        refine lv_if_le (tgt := 2237) hx hb dL_law_2198 (by decide) (fun c_10 => ?_) (fun c_10 => ?_)
        · have hF := q_if_t c_10 hF
          exact kk (v29_9, σE_9) hF _ _ _ hP hD hS (lv_sub hl [0, 1, 2, 3, 4, 5, 6, 7, 8, 9, 10, 11, 12] rfl)
        · have hF := q_if_f c_10 hF
          refine lv_aload hx hb dL_law_2201 (lv_at hl 2 rfl) ?_
          refine lv_iload hx hb dL_law_2203 (lv_at hl 1 rfl) ?_
          refine lv_aload hx hb dL_law_2205 (lv_at hl 2 rfl) ?_
          refine lv_iload hx hb dL_law_2207 (lv_at hl 1 rfl) ?_
          refine lv_iload hx hb dL_law_2209 (lv_at hl 0 rfl) ?_
          refine lv_isub hx hb dL_law_2211 ?_
          obtain ⟨r_11, i_12, e_13, hF⟩ := q_rd_s hF
          refine r_iald (v := r_11) hx hb hK hP 32 rfl i_12 e_13 dL_law_2212 ?_
          refine lv_iconst (v := 2) hx hb dL_law_2213 (by decide) ?_
          refine lv_iload hx hb dL_law_2214 (lv_at hl 0 rfl) ?_
          refine lv_imul hx hb dL_law_2216 ?_
          refine lv_icmp_le (tgt := 2225) hx hb dL_law_2217 (by decide) (fun c_14 => ?_) (fun c_14 => ?_)
          · have hF := q_if_t c_14 hF
            refine lv_aload hx hb dL_law_2225 (lv_at hl 2 rfl) ?_
            refine lv_iload hx hb dL_law_2227 (lv_at hl 1 rfl) ?_
            obtain ⟨r_15, i_16, e_17, hF⟩ := q_rd_s hF
            refine r_iald (v := r_15) hx hb hK hP 32 rfl i_16 e_17 dL_law_2229 ?_
            obtain ⟨σE_18, i_19, e_20, hF⟩ := q_wr_s hF
            refine r_iast (f' := upd (σE_9 0) v28_2.toNatClampNeg r_15) hx hb hK hP hD hS 32 rfl i_19 (fun _ _ => rfl) dL_law_2230 (fun H locs hP hD hS => ?_)
            have hP : va_P g.1 vwCl (wX6 qX AX ++ wX1 g (AX 0) AC σC ++ wX1 g (AX 1) AD σD ++ wX3 g (AX 3) AP σP ++ wX2 (AX 4) σN ++ wX5 g (AX 5) AW (.ref qH) σW ++ wX4 g (AX 6) AY σY ++ wX0 g (AX 7) AK σK ℓK ++ wH g qH σH ++ wR g q_1 61 (q_up σE_9 0 (upd (σE_9 0) v28_2.toNatClampNeg r_15))) H := hP
            have hD : va_D Z (wX6 qX AX ++ wX1 g (AX 0) AC σC ++ wX1 g (AX 1) AD σD ++ wX3 g (AX 3) AP σP ++ wX2 (AX 4) σN ++ wX5 g (AX 5) AW (.ref qH) σW ++ wX4 g (AX 6) AY σY ++ wX0 g (AX 7) AK σK ℓK ++ wH g qH σH ++ wR g q_1 61 (q_up σE_9 0 (upd (σE_9 0) v28_2.toNatClampNeg r_15))) := hD
            rw [e_20] at hP hD
            refine lv_iinc (v := v29_9 + (-1)) (lv' := [(29, .int (v29_9 + (-1))), (28, .int v28_2), (27, .ref q_1), (0, .ref b), (2, .int v2), (4, .int v4), (7, .int v7), (9, .int v9), (22, .int v22), (23, .int v23), (24, .int v24), (25, .int v25), (26, .int v26)]) hx hb dL_law_2231 hl (k := 0) rfl rfl (by decide) rfl (fun ls hl => ?_)
            refine lv_goto (tgt := 2196) hx hb dL_law_2234 (by decide) ?_
            exact ag (v29_9 + (-1), σE_18) hF _ _ _ hP hD hS (lv_sub hl [0, 1, 2, 3, 4, 5, 6, 7, 8, 9, 10, 11, 12] rfl)
          · have hF := q_if_f c_14 hF
            refine lv_iload hx hb dL_law_2220 (lv_at hl 0 rfl) ?_
            refine lv_goto (tgt := 2230) hx hb dL_law_2222 (by decide) ?_
            obtain ⟨σE_21, i_22, e_23, hF⟩ := q_wr_s hF
            refine r_iast (f' := upd (σE_9 0) v28_2.toNatClampNeg v29_9) hx hb hK hP hD hS 32 rfl i_22 (fun _ _ => rfl) dL_law_2230 (fun H locs hP hD hS => ?_)
            have hP : va_P g.1 vwCl (wX6 qX AX ++ wX1 g (AX 0) AC σC ++ wX1 g (AX 1) AD σD ++ wX3 g (AX 3) AP σP ++ wX2 (AX 4) σN ++ wX5 g (AX 5) AW (.ref qH) σW ++ wX4 g (AX 6) AY σY ++ wX0 g (AX 7) AK σK ℓK ++ wH g qH σH ++ wR g q_1 61 (q_up σE_9 0 (upd (σE_9 0) v28_2.toNatClampNeg v29_9))) H := hP
            have hD : va_D Z (wX6 qX AX ++ wX1 g (AX 0) AC σC ++ wX1 g (AX 1) AD σD ++ wX3 g (AX 3) AP σP ++ wX2 (AX 4) σN ++ wX5 g (AX 5) AW (.ref qH) σW ++ wX4 g (AX 6) AY σY ++ wX0 g (AX 7) AK σK ℓK ++ wH g qH σH ++ wR g q_1 61 (q_up σE_9 0 (upd (σE_9 0) v28_2.toNatClampNeg v29_9))) := hD
            rw [e_23] at hP hD
            refine lv_iinc (v := v29_9 + (-1)) (lv' := [(29, .int (v29_9 + (-1))), (28, .int v28_2), (27, .ref q_1), (0, .ref b), (2, .int v2), (4, .int v4), (7, .int v7), (9, .int v9), (22, .int v22), (23, .int v23), (24, .int v24), (25, .int v25), (26, .int v26)]) hx hb dL_law_2231 hl (k := 0) rfl rfl (by decide) rfl (fun ls hl => ?_)
            refine lv_goto (tgt := 2196) hx hb dL_law_2234 (by decide) ?_
            exact ag (v29_9 + (-1), σE_21) hF _ _ _ hP hD hS (lv_sub hl [0, 1, 2, 3, 4, 5, 6, 7, 8, 9, 10, 11, 12] rfl)
