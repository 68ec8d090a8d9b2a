set_option maxHeartbeats 32000000 in
set_option maxRecDepth 100000 in
theorem gs_2350 {p : Program} {l : Launch} {e : Env} {s : State} {m : MethodId} {below : List Frame} {meth : Method} {c : Code} {b : Nat} {g : GT} {Z : Nat → Prop} {H : Heap} {locs : List Loc} {ls : Array Slot} {qE qH qX : Nat} {AX AC AD AP AW AY AK : Nat → Nat} {L : Nat} {xs : Nat → Int32} {σC : qS} {σD : qS} {σP : qS} {σN : qS} {σW : qS} {σY : qS} {σK : qS} {ℓK : qL} {σH : qS} {σE : qS} {v2 : Int32} {v4 : Int32} {v7 : Int32} {v9 : Int32} {v23 : Int32} {v26 : Int32}
    (hx : p.tables.exec = Jvm.exec) (hb : c.code = cL_law) (hr : meth.sig.returnType = ret) (hlocks : meth.locks = false) (F : CallFix p m c cL_law 30 s #[Value.ref b] wsL_law RL) (hK : va_K g.1 vwCl (tyL g) s) (hN : NW s) (hA : ∀ q : Nat, s.heap.size ≤ q → Z q) (hZ : Z = fun q => s.heap.size ≤ q) (hbA : ¬ Z b) (hX : va_X b L xs s s.heap) (hbl : b < s.heap.size) (hF : g_2350 L xs σC σD σP σN σW σY σK ℓK σH σE v2 v4 v7 v9 v23 v26 = some 1)
    (hP : va_P g.1 vwCl (wX6 qX AX ++ wX1 g (AX 0) AC σC ++ wX1 g (AX 1) AD σD ++ wX3 g (AX 3) AP σP ++ wX2 (AX 4) σN ++ wX5 g (AX 5) AW (.ref qH) σW ++ wX4 g (AX 6) AY σY ++ wX0 g (AX 7) AK σK ℓK ++ wH g qH σH ++ wR g qE 61 σE) H) (hD : va_D Z (wX6 qX AX ++ wX1 g (AX 0) AC σC ++ wX1 g (AX 1) AD σD ++ wX3 g (AX 3) AP σP ++ wX2 (AX 4) σN ++ wX5 g (AX 5) AW (.ref qH) σW ++ wX4 g (AX 6) AY σY ++ wX0 g (AX 7) AK σK ℓK ++ wH g qH σH ++ wR g qE 61 σE)) (hS : va_S Z s.heap H locs) (hl : lv_has ls 30 [(2, .int v2), (4, .int v4), (7, .int v7), (9, .int v9), (23, .int v23), (26, .int v26)]) : W p l e room_1 s m #[Value.ref b] below meth c H locs 300 60000 (lw_Z below #[Value.ref b] s) (F0 m 2350 ls []) := by
  have hts := F.2.2.2.2
  have hown : s.vm.findClass RL = some m.cls := F.2.2.2.1
  dsimp only [g_2350] at hF
  refine lv_iload hx hb dL_law_2350 (lv_at hl 5 rfl) ?_
  refine lv_iconst (v := 2) hx hb dL_law_2352 (by decide) ?_
  refine lv_irem hx hb dL_law_2353 (by decide) ?_
  refine lv_iconst (v := 1) hx hb dL_law_2354 (by decide) ?_
  refine lv_icmp_ne (tgt := 2362) hx hb dL_law_2355 (by decide) (fun c_1 => ?_) (fun c_1 => ?_)
  · have hF := q_if_f c_1 hF
    refine lv_iconst (v := 0) hx hb dL_law_2362 (by decide) ?_
    refine lv_iload hx hb dL_law_2363 (lv_at hl 4 rfl) ?_
    refine lv_icmp_ne (tgt := 2400) hx hb dL_law_2365 (by decide) (fun c_2 => ?_) (fun c_2 => ?_)
    · have hF := q_if_f c_2 hF
      refine lv_iconst (v := 0) hx hb dL_law_2400 (by decide) ?_
      exact absurd hF (by decide)
    · have hF := q_if_t (by first | exact c_2 | exact Classical.not_not.mp c_2) hF
      refine lv_iload hx hb dL_law_2368 (lv_at hl 2 rfl) ?_
      refine lv_if_eq (tgt := 2400) hx hb dL_law_2370 (by decide) (fun c_3 => ?_) (fun c_3 => ?_)
      · have hF := q_if_t c_3 hF
        refine lv_iconst (v := 0) hx hb dL_law_2400 (by decide) ?_
        exact absurd hF (by decide)
      · have hF := q_if_f c_3 hF
        refine lv_iload hx hb dL_law_2373 (lv_at hl 3 rfl) ?_
        refine lv_bipush (v := 10) hx hb dL_law_2375 (by decide) ?_
        refine lv_icmp_eq (tgt := 2396) hx hb dL_law_2377 (by decide) (fun c_4 => ?_) (fun c_4 => ?_)
        · have hF := q_if_t c_4 hF
          refine lv_iconst (v := 1) hx hb dL_law_2396 (by decide) ?_
          refine lv_goto (tgt := 2401) hx hb dL_law_2397 (by decide) ?_
          refine va_forget (fun q hq => by have hz := hS.2.2 q hq; rw [hZ] at hz; exact hz) ?_
          refine W.widen (k := 600000) (n := 7302250) (by decide) (by decide) ?_
          exact lw_ret hx hb hr hlocks dL_law_2401
        · have hF := q_if_f c_4 hF
          refine lv_bipush (v := 10) hx hb dL_law_2380 (by decide) ?_
          refine lv_iload hx hb dL_law_2382 (lv_at hl 1 rfl) ?_
          refine lv_imul hx hb dL_law_2384 ?_
          refine lv_iload hx hb dL_law_2385 (lv_at hl 3 rfl) ?_
          refine lv_iload_n hx hb dL_law_2387 rfl (lv_at hl 0 rfl) ?_
          refine lv_iconst (v := 5) hx hb dL_law_2388 (by decide) ?_
          refine lv_iadd hx hb dL_law_2389 ?_
          refine lv_imul hx hb dL_law_2390 ?_
          refine lv_isub hx hb dL_law_2391 ?_
          refine lv_iload_n hx hb dL_law_2392 rfl (lv_at hl 0 rfl) ?_
          refine lv_icmp_gt (tgt := 2400) hx hb dL_law_2393 (by decide) (fun c_5 => ?_) (fun c_5 => ?_)
          · have hF := q_if_t c_5 hF
            refine lv_iconst (v := 0) hx hb dL_law_2400 (by decide) ?_
            exact absurd hF (by decide)
          · have hF := q_if_f c_5 hF
            refine lv_iconst (v := 1) hx hb dL_law_2396 (by decide) ?_
            refine lv_goto (tgt := 2401) hx hb dL_law_2397 (by decide) ?_
            refine va_forget (fun q hq => by have hz := hS.2.2 q hq; rw [hZ] at hz; exact hz) ?_
            refine W.widen (k := 600000) (n := 7302250) (by decide) (by decide) ?_
            exact lw_ret hx hb hr hlocks dL_law_2401
  · have hF := q_if_t (by first | exact c_1 | exact Classical.not_not.mp c_1) hF
    refine lv_iconst (v := 1) hx hb dL_law_2358 (by decide) ?_
    refine lv_goto (tgt := 2363) hx hb dL_law_2359 (by decide) ?_
    refine lv_iload hx hb dL_law_2363 (lv_at hl 4 rfl) ?_
    refine lv_icmp_ne (tgt := 2400) hx hb dL_law_2365 (by decide) (fun c_6 => ?_) (fun c_6 => ?_)
    · have hF := q_if_f c_6 hF
      refine lv_iconst (v := 0) hx hb dL_law_2400 (by decide) ?_
      exact absurd hF (by decide)
    · have hF := q_if_t (by first | exact c_6 | exact Classical.not_not.mp c_6) hF
      refine lv_iload hx hb dL_law_2368 (lv_at hl 2 rfl) ?_
      refine lv_if_eq (tgt := 2400) hx hb dL_law_2370 (by decide) (fun c_7 => ?_) (fun c_7 => ?_)
      · have hF := q_if_t c_7 hF
        refine lv_iconst (v := 0) hx hb dL_law_2400 (by decide) ?_
        exact absurd hF (by decide)
      · have hF := q_if_f c_7 hF
        refine lv_iload hx hb dL_law_2373 (lv_at hl 3 rfl) ?_
        refine lv_bipush (v := 10) hx hb dL_law_2375 (by decide) ?_
        refine lv_icmp_eq (tgt := 2396) hx hb dL_law_2377 (by decide) (fun c_8 => ?_) (fun c_8 => ?_)
        · have hF := q_if_t c_8 hF
          refine lv_iconst (v := 1) hx hb dL_law_2396 (by decide) ?_
          refine lv_goto (tgt := 2401) hx hb dL_law_2397 (by decide) ?_
          refine va_forget (fun q hq => by have hz := hS.2.2 q hq; rw [hZ] at hz; exact hz) ?_
          refine W.widen (k := 600000) (n := 7302250) (by decide) (by decide) ?_
          exact lw_ret hx hb hr hlocks dL_law_2401
        · have hF := q_if_f c_8 hF
          refine lv_bipush (v := 10) hx hb dL_law_2380 (by decide) ?_
          refine lv_iload hx hb dL_law_2382 (lv_at hl 1 rfl) ?_
          refine lv_imul hx hb dL_law_2384 ?_
          refine lv_iload hx hb dL_law_2385 (lv_at hl 3 rfl) ?_
          refine lv_iload_n hx hb dL_law_2387 rfl (lv_at hl 0 rfl) ?_
          refine lv_iconst (v := 5) hx hb dL_law_2388 (by decide) ?_
          refine lv_iadd hx hb dL_law_2389 ?_
          refine lv_imul hx hb dL_law_2390 ?_
          refine lv_isub hx hb dL_law_2391 ?_
          refine lv_iload_n hx hb dL_law_2392 rfl (lv_at hl 0 rfl) ?_
          refine lv_icmp_gt (tgt := 2400) hx hb dL_law_2393 (by decide) (fun c_9 => ?_) (fun c_9 => ?_)
          · have hF := q_if_t c_9 hF
            refine lv_iconst (v := 0) hx hb dL_law_2400 (by decide) ?_
            exact absurd hF (by decide)
          · have hF := q_if_f c_9 hF
            refine lv_iconst (v := 1) hx hb dL_law_2396 (by decide) ?_
            refine lv_goto (tgt := 2401) hx hb dL_law_2397 (by decide) ?_
            refine va_forget (fun q hq => by have hz := hS.2.2 q hq; rw [hZ] at hz; exact hz) ?_
            refine W.widen (k := 600000) (n := 7302250) (by decide) (by decide) ?_
            exact lw_ret hx hb hr hlocks dL_law_2401
