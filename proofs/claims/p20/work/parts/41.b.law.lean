set_option maxHeartbeats 8000000 in
set_option maxRecDepth 100000 in
theorem ws_413 {p : Program} {l : Launch} {e : Env} {s : State} {m : MethodId} {below : List Frame} {meth : Method} {c : Code} {b L : Nat} {xs : Nat → Int32} {g : GT} {Z : Nat → Prop} {H : Heap} {locs : List Loc} {ls : Array Slot} {qX qM : Nat} {AX AC AD AP AW AY AK AM : Nat → Nat} {i cells slots : Nat} {d f ep n mm : Nat → Int → Int} {σW σY σK : qS} {ℓK ℓM : qL} {QQ : Nat → Option Nat} {hh : Option (Nat × qS)} {i0 i1 : Option (Nat × (Nat → Nat) × (Nat → Int → Int))}
    (hx : p.tables.exec = Jvm.exec) (hb : c.code = cL_law) (F : CallFix p m c cL_law 4 s #[Value.ref b] wsL_law RL) (hK : va_K g.1 vwCl (tyL g) s) (hN : NW s) (hA : ∀ q : Nat, s.heap.size ≤ q → Z q) (hbA : ¬ Z b) (hX : va_X b L xs s s.heap) (hbl : b < s.heap.size) (hi : i + 7 ≤ L) (hL : L ≤ 3584) (hcR : cells + 8 ≤ room_1.cells ∧ slots + 10240 ≤ room_1.slots)
    (K : lw_C p l e s m below meth c b g Z qX qM AX AC AD AP AW AY AK AM i (cells + 8) (slots + 10240) 949) (hO : kO d f ep mm QQ i0 i1) (hP : va_P g.1 vwCl (kT g hh i0 i1 ++ kF g qX qM AX AC AD AP AW AY AK AM (eC d) (eC f) (eC ep) (eC n) (eC (pw mm d)) σW σY σK ℓK ℓM QQ (kV hh)) H) (hD : va_D Z (kT g hh i0 i1 ++ kF g qX qM AX AC AD AP AW AY AK AM (eC d) (eC f) (eC ep) (eC n) (eC (pw mm d)) σW σY σK ℓK ℓM QQ (kV hh))) (hS : va_S Z s.heap H locs) (hl : lv_has ls 4 [(3, .int (nI i)), (2, .ref qM), (1, .ref qX), (0, .ref b)]) : W p l e room_1 s m #[Value.ref b] below meth c H locs cells slots (lw_Z below #[Value.ref b] s) (F0 m 413 ls []) := by
  obtain ⟨r, nn, f1, n1, x1, m1, k1, k2⟩ := c_pan (n := n) (τ := ℓM) hO.xe hO.xd hO.xf hO.xp (xs (nI (i + 1)).toNatClampNeg)
  refine lv_aload_n hx hb dL_law_413 rfl (lv_at hl 2 rfl) ?_
  refine lv_aload_n hx hb dL_law_414 rfl (lv_at hl 3 rfl) ?_
  refine lv_iload_n hx hb dL_law_415 rfl (lv_at hl 0 rfl) ?_
  refine lv_iconst (v := 1) hx hb dL_law_416 (by decide) ?_
  refine lv_iadd hx hb dL_law_417 ?_
  refine gtop (y := nI (i + 1)) (nI_adk i 1) ?_
  refine va_sld hx hb hX hbl hbA hS (vp_in_nI (n := i + 1) (by omega) (by omega)) dL_law_418 ?_
  refine gcV_iT (T := kT g hh i0 i1) (ws := kF g qX qM AX AC AD AP AW AY AK AM (eC d) (eC f) (eC ep) (eC n) (eC (pw mm d)) σW σY σK ℓK ℓM QQ (kV hh)) (As := [.int (xs (nI (i + 1)).toNatClampNeg)]) (rest := []) (ci := 6) (q := (RX6, TX6, 8)) F hK hN hP hD hS hA (m_X6_pan l g H.size qX AX (eC n) AP (eC ep) AD (eC f) AC (eC d) (xs (nI (i + 1)).toNatClampNeg) r (eC nn) (eC f1) x1) gL_law_X6_pan kX6_pan rfl rfl rfl rfl ⟨(Nat.le_of_ble_eq_true rfl), (Nat.le_of_ble_eq_true rfl)⟩ [0, 20, 18, 19, 9, 10, 11, 12, 13, 14, 15, 16, 1, 2, 3, 4, 5, 6, 7, 8] [17, 21, 22, 23, 24, 25, 26, 27, 28, 29, 30, 31, 32, 33, 34, 35, 36, 37, 38, 39, 40, 41, 42, 43, 44, 45, 46, 47, 48, 49, 50, 51, 52] rfl rfl rfl (by decide) rfl rfl rfl rfl rfl hl.1 (Nat.le_of_ble_eq_true rfl) dL_law_419 ⟨by have := hcR.1; omega, by have := hcR.2; omega⟩ (fun r_w u_w H locs hw hP hD hS => ?_)
  have hP : va_P g.1 vwCl ((kT g hh i0 i1) ++ (kF g qX qM AX AC AD AP AW AY AK AM (eC d) (eC f1) (eC ep) (eC nn) (eC (pw mm d)) σW σY σK ℓK ℓM QQ (kV hh))) H := tP_sub hP [33, 45, 46, 47, 48, 49, 50, 51, 52, 37, 38, 39, 40, 41, 42, 43, 44, 0, 35, 36, 34, 1, 2, 3, 4, 5, 6, 7, 8, 9, 10, 11, 12, 13, 14, 15, 16, 17, 18, 19, 20, 21, 22, 23, 24, 25, 26, 27, 28, 29, 30, 31, 32] rfl
  have hD : va_D Z ((kT g hh i0 i1) ++ (kF g qX qM AX AC AD AP AW AY AK AM (eC d) (eC f1) (eC ep) (eC nn) (eC (pw mm d)) σW σY σK ℓK ℓM QQ (kV hh))) := tD_sub hD [33, 45, 46, 47, 48, 49, 50, 51, 52, 37, 38, 39, 40, 41, 42, 43, 44, 0, 35, 36, 34, 1, 2, 3, 4, 5, 6, 7, 8, 9, 10, 11, 12, 13, 14, 15, 16, 17, 18, 19, 20, 21, 22, 23, 24, 25, 26, 27, 28, 29, 30, 31, 32] (by decide) rfl
  obtain rfl := hw
  refine lv_pop hx hb dL_law_422 rfl ?_
  refine lv_aload_n hx hb dL_law_423 rfl (lv_at hl 1 rfl) ?_
  refine lv_aload_n hx hb dL_law_424 rfl (lv_at hl 3 rfl) ?_
  refine lv_iload_n hx hb dL_law_425 rfl (lv_at hl 0 rfl) ?_
  refine lv_iconst (v := 1) hx hb dL_law_426 (by decide) ?_
  refine lv_iadd hx hb dL_law_427 ?_
  refine gtop (y := nI (i + 1)) (nI_adk i 1) ?_
  refine va_sld hx hb hX hbl hbA hS (vp_in_nI (n := i + 1) (by omega) (by omega)) dL_law_428 ?_
  refine gcV_iT (T := kT g hh i0 i1) (ws := kF g qX qM AX AC AD AP AW AY AK AM (eC d) (eC f1) (eC ep) (eC nn) (eC (pw mm d)) σW σY σK ℓK ℓM QQ (kV hh)) (As := [.int (xs (nI (i + 1)).toNatClampNeg)]) (rest := []) (ci := 7) (q := (RX7, TX7, 34)) F hK hN hP hD hS hA (m_X7_pan l g H.size qM AM (eC (pw mm d)) ℓM (xs (nI (i + 1)).toNatClampNeg) r (eC (pw n1 d)) m1) gL_law_X7_pan kX7_pan rfl rfl rfl rfl ⟨(Nat.le_of_ble_eq_true rfl), (Nat.le_of_ble_eq_true rfl)⟩ [32, 33, 34, 35, 36, 37, 38, 39, 40, 41, 42, 43, 44, 45, 46, 47, 48, 49, 50, 51, 52] [0, 1, 2, 3, 4, 5, 6, 7, 8, 9, 10, 11, 12, 13, 14, 15, 16, 17, 18, 19, 20, 21, 22, 23, 24, 25, 26, 27, 28, 29, 30, 31] rfl rfl rfl (by decide) rfl rfl rfl rfl rfl hl.1 (Nat.le_of_ble_eq_true rfl) dL_law_429 ⟨by have := hcR.1; omega, by have := hcR.2; omega⟩ (fun r_w u_w H locs hw hP hD hS => ?_)
  have hP : va_P g.1 vwCl ((kT g hh i0 i1) ++ (kF g qX qM AX AC AD AP AW AY AK AM (eC d) (eC f1) (eC ep) (eC nn) (eC (pw n1 d)) σW σY σK ℓK ℓM QQ (kV hh))) H := hP
  have hD : va_D Z ((kT g hh i0 i1) ++ (kF g qX qM AX AC AD AP AW AY AK AM (eC d) (eC f1) (eC ep) (eC nn) (eC (pw n1 d)) σW σY σK ℓK ℓM QQ (kV hh))) := hD
  obtain rfl := hw
  refine lv_pop hx hb dL_law_432 rfl ?_
  refine lv_goto (tgt := 949) hx hb dL_law_433 (by decide) ?_
  refine W.widen (k := cells + 8) (n := slots + 10240) (by omega) (by omega) ?_
  exact K d f1 ep nn n1 σW σY σK ℓK ℓM QQ hh i0 i1 ((hO.fN k2).dr k1) H locs ls hP hD hS hl
set_option maxHeartbeats 8000000 in
set_option maxRecDepth 100000 in
theorem ws_436 {p : Program} {l : Launch} {e : Env} {s : State} {m : MethodId} {below : List Frame} {meth : Method} {c : Code} {b L : Nat} {xs : Nat → Int32} {g : GT} {Z : Nat → Prop} {H : Heap} {locs : List Loc} {ls : Array Slot} {qX qM : Nat} {AX AC AD AP AW AY AK AM : Nat → Nat} {i cells slots : Nat} {d f ep n mm : Nat → Int → Int} {σW σY σK : qS} {ℓK ℓM : qL} {QQ : Nat → Option Nat} {hh : Option (Nat × qS)} {i0 i1 : Option (Nat × (Nat → Nat) × (Nat → Int → Int))}
    (hx : p.tables.exec = Jvm.exec) (hb : c.code = cL_law) (F : CallFix p m c cL_law 4 s #[Value.ref b] wsL_law RL) (hK : va_K g.1 vwCl (tyL g) s) (hN : NW s) (hA : ∀ q : Nat, s.heap.size ≤ q → Z q) (hbA : ¬ Z b) (hX : va_X b L xs s s.heap) (hbl : b < s.heap.size) (hi : i + 7 ≤ L) (hL : L ≤ 3584) (hcR : cells + 8 ≤ room_1.cells ∧ slots + 10240 ≤ room_1.slots)
    (K : lw_C p l e s m below meth c b g Z qX qM AX AC AD AP AW AY AK AM i (cells + 8) (slots + 10240) 949) (hO : kO d f ep mm QQ i0 i1) (hP : va_P g.1 vwCl (kT g hh i0 i1 ++ kF g qX qM AX AC AD AP AW AY AK AM (eC d) (eC f) (eC ep) (eC n) (eC (pw mm d)) σW σY σK ℓK ℓM QQ (kV hh)) H) (hD : va_D Z (kT g hh i0 i1 ++ kF g qX qM AX AC AD AP AW AY AK AM (eC d) (eC f) (eC ep) (eC n) (eC (pw mm d)) σW σY σK ℓK ℓM QQ (kV hh))) (hS : va_S Z s.heap H locs) (hl : lv_has ls 4 [(3, .int (nI i)), (2, .ref qM), (1, .ref qX), (0, .ref b)]) : W p l e room_1 s m #[Value.ref b] below meth c H locs cells slots (lw_Z below #[Value.ref b] s) (F0 m 436 ls []) := by
  obtain ⟨r, nn, f1, n1, x1, m1, k1, k2⟩ := c_holds (n := n) (τ := ℓM) hO.xe hO.xd hO.xf hO.xp (xs (nI (i + 1)).toNatClampNeg)
  refine lv_aload_n hx hb dL_law_436 rfl (lv_at hl 2 rfl) ?_
  refine lv_aload_n hx hb dL_law_437 rfl (lv_at hl 3 rfl) ?_
  refine lv_iload_n hx hb dL_law_438 rfl (lv_at hl 0 rfl) ?_
  refine lv_iconst (v := 1) hx hb dL_law_439 (by decide) ?_
  refine lv_iadd hx hb dL_law_440 ?_
  refine gtop (y := nI (i + 1)) (nI_adk i 1) ?_
  refine va_sld hx hb hX hbl hbA hS (vp_in_nI (n := i + 1) (by omega) (by omega)) dL_law_441 ?_
  refine gcV_iT (T := kT g hh i0 i1) (ws := kF g qX qM AX AC AD AP AW AY AK AM (eC d) (eC f) (eC ep) (eC n) (eC (pw mm d)) σW σY σK ℓK ℓM QQ (kV hh)) (As := [.int (xs (nI (i + 1)).toNatClampNeg)]) (rest := []) (ci := 6) (q := (RX6, TX6, 8)) F hK hN hP hD hS hA (m_X6_holds l g H.size qX AX (eC n) AP (eC ep) AD (eC f) AC (eC d) (xs (nI (i + 1)).toNatClampNeg) r (eC nn) (eC f1) x1) gL_law_X6_holds kX6_holds rfl rfl rfl rfl ⟨(Nat.le_of_ble_eq_true rfl), (Nat.le_of_ble_eq_true rfl)⟩ [0, 20, 18, 19, 9, 10, 11, 12, 13, 14, 15, 16, 1, 2, 3, 4, 5, 6, 7, 8] [17, 21, 22, 23, 24, 25, 26, 27, 28, 29, 30, 31, 32, 33, 34, 35, 36, 37, 38, 39, 40, 41, 42, 43, 44, 45, 46, 47, 48, 49, 50, 51, 52] rfl rfl rfl (by decide) rfl rfl rfl rfl rfl hl.1 (Nat.le_of_ble_eq_true rfl) dL_law_442 ⟨by have := hcR.1; omega, by have := hcR.2; omega⟩ (fun r_w u_w H locs hw hP hD hS => ?_)
  have hP : va_P g.1 vwCl ((kT g hh i0 i1) ++ (kF g qX qM AX AC AD AP AW AY AK AM (eC d) (eC f1) (eC ep) (eC nn) (eC (pw mm d)) σW σY σK ℓK ℓM QQ (kV hh))) H := tP_sub hP [33, 45, 46, 47, 48, 49, 50, 51, 52, 37, 38, 39, 40, 41, 42, 43, 44, 0, 35, 36, 34, 1, 2, 3, 4, 5, 6, 7, 8, 9, 10, 11, 12, 13, 14, 15, 16, 17, 18, 19, 20, 21, 22, 23, 24, 25, 26, 27, 28, 29, 30, 31, 32] rfl
  have hD : va_D Z ((kT g hh i0 i1) ++ (kF g qX qM AX AC AD AP AW AY AK AM (eC d) (eC f1) (eC ep) (eC nn) (eC (pw mm d)) σW σY σK ℓK ℓM QQ (kV hh))) := tD_sub hD [33, 45, 46, 47, 48, 49, 50, 51, 52, 37, 38, 39, 40, 41, 42, 43, 44, 0, 35, 36, 34, 1, 2, 3, 4, 5, 6, 7, 8, 9, 10, 11, 12, 13, 14, 15, 16, 17, 18, 19, 20, 21, 22, 23, 24, 25, 26, 27, 28, 29, 30, 31, 32] (by decide) rfl
  obtain rfl := hw
  refine lv_pop hx hb dL_law_445 rfl ?_
  refine lv_aload_n hx hb dL_law_446 rfl (lv_at hl 1 rfl) ?_
  refine lv_aload_n hx hb dL_law_447 rfl (lv_at hl 3 rfl) ?_
  refine lv_iload_n hx hb dL_law_448 rfl (lv_at hl 0 rfl) ?_
  refine lv_iconst (v := 1) hx hb dL_law_449 (by decide) ?_
  refine lv_iadd hx hb dL_law_450 ?_
  refine gtop (y := nI (i + 1)) (nI_adk i 1) ?_
  refine va_sld hx hb hX hbl hbA hS (vp_in_nI (n := i + 1) (by omega) (by omega)) dL_law_451 ?_
  refine gcV_iT (T := kT g hh i0 i1) (ws := kF g qX qM AX AC AD AP AW AY AK AM (eC d) (eC f1) (eC ep) (eC nn) (eC (pw mm d)) σW σY σK ℓK ℓM QQ (kV hh)) (As := [.int (xs (nI (i + 1)).toNatClampNeg)]) (rest := []) (ci := 7) (q := (RX7, TX7, 34)) F hK hN hP hD hS hA (m_X7_holds l g H.size qM AM (eC (pw mm d)) ℓM (xs (nI (i + 1)).toNatClampNeg) r (eC (pw n1 d)) m1) gL_law_X7_holds kX7_holds rfl rfl rfl rfl ⟨(Nat.le_of_ble_eq_true rfl), (Nat.le_of_ble_eq_true rfl)⟩ [32, 33, 34, 35, 36, 37, 38, 39, 40, 41, 42, 43, 44, 45, 46, 47, 48, 49, 50, 51, 52] [0, 1, 2, 3, 4, 5, 6, 7, 8, 9, 10, 11, 12, 13, 14, 15, 16, 17, 18, 19, 20, 21, 22, 23, 24, 25, 26, 27, 28, 29, 30, 31] rfl rfl rfl (by decide) rfl rfl rfl rfl rfl hl.1 (Nat.le_of_ble_eq_true rfl) dL_law_452 ⟨by have := hcR.1; omega, by have := hcR.2; omega⟩ (fun r_w u_w H locs hw hP hD hS => ?_)
  have hP : va_P g.1 vwCl ((kT g hh i0 i1) ++ (kF g qX qM AX AC AD AP AW AY AK AM (eC d) (eC f1) (eC ep) (eC nn) (eC (pw n1 d)) σW σY σK ℓK ℓM QQ (kV hh))) H := hP
  have hD : va_D Z ((kT g hh i0 i1) ++ (kF g qX qM AX AC AD AP AW AY AK AM (eC d) (eC f1) (eC ep) (eC nn) (eC (pw n1 d)) σW σY σK ℓK ℓM QQ (kV hh))) := hD
  obtain rfl := hw
  refine lv_pop hx hb dL_law_455 rfl ?_
  refine lv_goto (tgt := 949) hx hb dL_law_456 (by decide) ?_
  refine W.widen (k := cells + 8) (n := slots + 10240) (by omega) (by omega) ?_
  exact K d f1 ep nn n1 σW σY σK ℓK ℓM QQ hh i0 i1 ((hO.fN k2).dr k1) H locs ls hP hD hS hl
set_option maxHeartbeats 8000000 in
set_option maxRecDepth 100000 in
theorem ws_459 {p : Program} {l : Launch} {e : Env} {s : State} {m : MethodId} {below : List Frame} {meth : Method} {c : Code} {b L : Nat} {xs : Nat → Int32} {g : GT} {Z : Nat → Prop} {H : Heap} {locs : List Loc} {ls : Array Slot} {qX qM : Nat} {AX AC AD AP AW AY AK AM : Nat → Nat} {i cells slots : Nat} {d f ep n mm : Nat → Int → Int} {σW σY σK : qS} {ℓK ℓM : qL} {QQ : Nat → Option Nat} {hh : Option (Nat × qS)} {i0 i1 : Option (Nat × (Nat → Nat) × (Nat → Int → Int))}
    (hx : p.tables.exec = Jvm.exec) (hb : c.code = cL_law) (F : CallFix p m c cL_law 4 s #[Value.ref b] wsL_law RL) (hK : va_K g.1 vwCl (tyL g) s) (hN : NW s) (hA : ∀ q : Nat, s.heap.size ≤ q → Z q) (hbA : ¬ Z b) (hX : va_X b L xs s s.heap) (hbl : b < s.heap.size) (hi : i + 7 ≤ L) (hL : L ≤ 3584) (hcR : cells + 8 ≤ room_1.cells ∧ slots + 10240 ≤ room_1.slots)
    (K : lw_C p l e s m below meth c b g Z qX qM AX AC AD AP AW AY AK AM i (cells + 8) (slots + 10240) 949) (hO : kO d f ep mm QQ i0 i1) (hP : va_P g.1 vwCl (kT g hh i0 i1 ++ kF g qX qM AX AC AD AP AW AY AK AM (eC d) (eC f) (eC ep) (eC n) (eC (pw mm d)) σW σY σK ℓK ℓM QQ (kV hh)) H) (hD : va_D Z (kT g hh i0 i1 ++ kF g qX qM AX AC AD AP AW AY AK AM (eC d) (eC f) (eC ep) (eC n) (eC (pw mm d)) σW σY σK ℓK ℓM QQ (kV hh))) (hS : va_S Z s.heap H locs) (hl : lv_has ls 4 [(3, .int (nI i)), (2, .ref qM), (1, .ref qX), (0, .ref b)]) : W p l e room_1 s m #[Value.ref b] below meth c H locs cells slots (lw_Z below #[Value.ref b] s) (F0 m 459 ls []) := by
  obtain ⟨r, nn, f1, n1, x1, m1, k1, k2⟩ := c_other (n := n) (τ := ℓM) hO.xe hO.xd hO.xf hO.xp (xs (nI (i + 1)).toNatClampNeg)
  refine lv_aload_n hx hb dL_law_459 rfl (lv_at hl 2 rfl) ?_
  refine lv_aload_n hx hb dL_law_460 rfl (lv_at hl 3 rfl) ?_
  refine lv_iload_n hx hb dL_law_461 rfl (lv_at hl 0 rfl) ?_
  refine lv_iconst (v := 1) hx hb dL_law_462 (by decide) ?_
  refine lv_iadd hx hb dL_law_463 ?_
  refine gtop (y := nI (i + 1)) (nI_adk i 1) ?_
  refine va_sld hx hb hX hbl hbA hS (vp_in_nI (n := i + 1) (by omega) (by omega)) dL_law_464 ?_
  refine gcV_iT (T := kT g hh i0 i1) (ws := kF g qX qM AX AC AD AP AW AY AK AM (eC d) (eC f) (eC ep) (eC n) (eC (pw mm d)) σW σY σK ℓK ℓM QQ (kV hh)) (As := [.int (xs (nI (i + 1)).toNatClampNeg)]) (rest := []) (ci := 6) (q := (RX6, TX6, 8)) F hK hN hP hD hS hA (m_X6_other l g H.size qX AX (eC n) AP (eC ep) AD (eC f) AC (eC d) (xs (nI (i + 1)).toNatClampNeg) r (eC nn) (eC f1) x1) gL_law_X6_other kX6_other rfl rfl rfl rfl ⟨(Nat.le_of_ble_eq_true rfl), (Nat.le_of_ble_eq_true rfl)⟩ [0, 20, 18, 19, 9, 10, 11, 12, 13, 14, 15, 16, 1, 2, 3, 4, 5, 6, 7, 8] [17, 21, 22, 23, 24, 25, 26, 27, 28, 29, 30, 31, 32, 33, 34, 35, 36, 37, 38, 39, 40, 41, 42, 43, 44, 45, 46, 47, 48, 49, 50, 51, 52] rfl rfl rfl (by decide) rfl rfl rfl rfl rfl hl.1 (Nat.le_of_ble_eq_true rfl) dL_law_465 ⟨by have := hcR.1; omega, by have := hcR.2; omega⟩ (fun r_w u_w H locs hw hP hD hS => ?_)
  have hP : va_P g.1 vwCl ((kT g hh i0 i1) ++ (kF g qX qM AX AC AD AP AW AY AK AM (eC d) (eC f1) (eC ep) (eC nn) (eC (pw mm d)) σW σY σK ℓK ℓM QQ (kV hh))) H := tP_sub hP [33, 45, 46, 47, 48, 49, 50, 51, 52, 37, 38, 39, 40, 41, 42, 43, 44, 0, 35, 36, 34, 1, 2, 3, 4, 5, 6, 7, 8, 9, 10, 11, 12, 13, 14, 15, 16, 17, 18, 19, 20, 21, 22, 23, 24, 25, 26, 27, 28, 29, 30, 31, 32] rfl
  have hD : va_D Z ((kT g hh i0 i1) ++ (kF g qX qM AX AC AD AP AW AY AK AM (eC d) (eC f1) (eC ep) (eC nn) (eC (pw mm d)) σW σY σK ℓK ℓM QQ (kV hh))) := tD_sub hD [33, 45, 46, 47, 48, 49, 50, 51, 52, 37, 38, 39, 40, 41, 42, 43, 44, 0, 35, 36, 34, 1, 2, 3, 4, 5, 6, 7, 8, 9, 10, 11, 12, 13, 14, 15, 16, 17, 18, 19, 20, 21, 22, 23, 24, 25, 26, 27, 28, 29, 30, 31, 32] (by decide) rfl
  obtain rfl := hw
  refine lv_pop hx hb dL_law_468 rfl ?_
  refine lv_aload_n hx hb dL_law_469 rfl (lv_at hl 1 rfl) ?_
  refine lv_aload_n hx hb dL_law_470 rfl (lv_at hl 3 rfl) ?_
  refine lv_iload_n hx hb dL_law_471 rfl (lv_at hl 0 rfl) ?_
  refine lv_iconst (v := 1) hx hb dL_law_472 (by decide) ?_
  refine lv_iadd hx hb dL_law_473 ?_
  refine gtop (y := nI (i + 1)) (nI_adk i 1) ?_
  refine va_sld hx hb hX hbl hbA hS (vp_in_nI (n := i + 1) (by omega) (by omega)) dL_law_474 ?_
  refine gcV_iT (T := kT g hh i0 i1) (ws := kF g qX qM AX AC AD AP AW AY AK AM (eC d) (eC f1) (eC ep) (eC nn) (eC (pw mm d)) σW σY σK ℓK ℓM QQ (kV hh)) (As := [.int (xs (nI (i + 1)).toNatClampNeg)]) (rest := []) (ci := 7) (q := (RX7, TX7, 34)) F hK hN hP hD hS hA (m_X7_other l g H.size qM AM (eC (pw mm d)) ℓM (xs (nI (i + 1)).toNatClampNeg) r (eC (pw n1 d)) m1) gL_law_X7_other kX7_other rfl rfl rfl rfl ⟨(Nat.le_of_ble_eq_true rfl), (Nat.le_of_ble_eq_true rfl)⟩ [32, 33, 34, 35, 36, 37, 38, 39, 40, 41, 42, 43, 44, 45, 46, 47, 48, 49, 50, 51, 52] [0, 1, 2, 3, 4, 5, 6, 7, 8, 9, 10, 11, 12, 13, 14, 15, 16, 17, 18, 19, 20, 21, 22, 23, 24, 25, 26, 27, 28, 29, 30, 31] rfl rfl rfl (by decide) rfl rfl rfl rfl rfl hl.1 (Nat.le_of_ble_eq_true rfl) dL_law_475 ⟨by have := hcR.1; omega, by have := hcR.2; omega⟩ (fun r_w u_w H locs hw hP hD hS => ?_)
  have hP : va_P g.1 vwCl ((kT g hh i0 i1) ++ (kF g qX qM AX AC AD AP AW AY AK AM (eC d) (eC f1) (eC ep) (eC nn) (eC (pw n1 d)) σW σY σK ℓK ℓM QQ (kV hh))) H := hP
  have hD : va_D Z ((kT g hh i0 i1) ++ (kF g qX qM AX AC AD AP AW AY AK AM (eC d) (eC f1) (eC ep) (eC nn) (eC (pw n1 d)) σW σY σK ℓK ℓM QQ (kV hh))) := hD
  obtain rfl := hw
  refine lv_pop hx hb dL_law_478 rfl ?_
  refine lv_goto (tgt := 949) hx hb dL_law_479 (by decide) ?_
  refine W.widen (k := cells + 8) (n := slots + 10240) (by omega) (by omega) ?_
  exact K d f1 ep nn n1 σW σY σK ℓK ℓM QQ hh i0 i1 ((hO.fN k2).dr k1) H locs ls hP hD hS hl
set_option maxHeartbeats 8000000 in
set_option maxRecDepth 100000 in
theorem ws_482 {p : Program} {l : Launch} {e : Env} {s : State} {m : MethodId} {below : List Frame} {meth : Method} {c : Code} {b L : Nat} {xs : Nat → Int32} {g : GT} {Z : Nat → Prop} {H : Heap} {locs : List Loc} {ls : Array Slot} {qX qM : Nat} {AX AC AD AP AW AY AK AM : Nat → Nat} {i cells slots : Nat} {d f ep n mm : Nat → Int → Int} {σW σY σK : qS} {ℓK ℓM : qL} {QQ : Nat → Option Nat} {hh : Option (Nat × qS)} {i0 i1 : Option (Nat × (Nat → Nat) × (Nat → Int → Int))}
    (hx : p.tables.exec = Jvm.exec) (hb : c.code = cL_law) (F : CallFix p m c cL_law 4 s #[Value.ref b] wsL_law RL) (hK : va_K g.1 vwCl (tyL g) s) (hN : NW s) (hA : ∀ q : Nat, s.heap.size ≤ q → Z q) (hbA : ¬ Z b) (hX : va_X b L xs s s.heap) (hbl : b < s.heap.size) (hi : i + 7 ≤ L) (hL : L ≤ 3584) (hcR : cells + 8 ≤ room_1.cells ∧ slots + 10240 ≤ room_1.slots)
    (K : lw_C p l e s m below meth c b g Z qX qM AX AC AD AP AW AY AK AM i (cells + 8) (slots + 10240) 949) (hO : kO d f ep mm QQ i0 i1) (hP : va_P g.1 vwCl (kT g hh i0 i1 ++ kF g qX qM AX AC AD AP AW AY AK AM (eC d) (eC f) (eC ep) (eC n) (eC (pw mm d)) σW σY σK ℓK ℓM QQ (kV hh)) H) (hD : va_D Z (kT g hh i0 i1 ++ kF g qX qM AX AC AD AP AW AY AK AM (eC d) (eC f) (eC ep) (eC n) (eC (pw mm d)) σW σY σK ℓK ℓM QQ (kV hh))) (hS : va_S Z s.heap H locs) (hl : lv_has ls 4 [(3, .int (nI i)), (2, .ref qM), (1, .ref qX), (0, .ref b)]) : W p l e room_1 s m #[Value.ref b] below meth c H locs cells slots (lw_Z below #[Value.ref b] s) (F0 m 482 ls []) := by
  obtain ⟨r, nn, e1, f1, d1, n1, x1, m1, k1, k2, k3, k4, k5, k6⟩ := c_done (n := n) (τ := ℓM) hO.xe hO.xd hO.xf hO.xp
  refine lv_aload_n hx hb dL_law_482 rfl (lv_at hl 2 rfl) ?_
  refine gcV_iT (T := kT g hh i0 i1) (ws := kF g qX qM AX AC AD AP AW AY AK AM (eC d) (eC f) (eC ep) (eC n) (eC (pw mm d)) σW σY σK ℓK ℓM QQ (kV hh)) (As := []) (rest := []) (ci := 6) (q := (RX6, TX6, 8)) F hK hN hP hD hS hA (m_X6_done l g H.size qX AX (eC n) AP (eC ep) AD (eC f) AC (eC d) r (eC nn) (eC e1) (eC f1) (eC d1) x1) gL_law_X6_done kX6_done rfl rfl rfl rfl ⟨(Nat.le_of_ble_eq_true rfl), (Nat.le_of_ble_eq_true rfl)⟩ [0, 20, 18, 19, 9, 10, 11, 12, 13, 14, 15, 16, 1, 2, 3, 4, 5, 6, 7, 8] [17, 21, 22, 23, 24, 25, 26, 27, 28, 29, 30, 31, 32, 33, 34, 35, 36, 37, 38, 39, 40, 41, 42, 43, 44, 45, 46, 47, 48, 49, 50, 51, 52] rfl rfl rfl (by decide) rfl rfl rfl rfl rfl hl.1 (Nat.le_of_ble_eq_true rfl) dL_law_483 ⟨by have := hcR.1; omega, by have := hcR.2; omega⟩ (fun r_w u_w H locs hw hP hD hS => ?_)
  have hP : va_P g.1 vwCl ((kT g hh i0 i1) ++ (kF g qX qM AX AC AD AP AW AY AK AM (eC d1) (eC f1) (eC e1) (eC nn) (eC (pw mm d)) σW σY σK ℓK ℓM QQ (kV hh))) H := tP_sub hP [33, 45, 46, 47, 48, 49, 50, 51, 52, 37, 38, 39, 40, 41, 42, 43, 44, 0, 35, 36, 34, 1, 2, 3, 4, 5, 6, 7, 8, 9, 10, 11, 12, 13, 14, 15, 16, 17, 18, 19, 20, 21, 22, 23, 24, 25, 26, 27, 28, 29, 30, 31, 32] rfl
  have hD : va_D Z ((kT g hh i0 i1) ++ (kF g qX qM AX AC AD AP AW AY AK AM (eC d1) (eC f1) (eC e1) (eC nn) (eC (pw mm d)) σW σY σK ℓK ℓM QQ (kV hh))) := tD_sub hD [33, 45, 46, 47, 48, 49, 50, 51, 52, 37, 38, 39, 40, 41, 42, 43, 44, 0, 35, 36, 34, 1, 2, 3, 4, 5, 6, 7, 8, 9, 10, 11, 12, 13, 14, 15, 16, 17, 18, 19, 20, 21, 22, 23, 24, 25, 26, 27, 28, 29, 30, 31, 32] (by decide) rfl
  obtain rfl := hw
  refine lv_pop hx hb dL_law_486 rfl ?_
  refine lv_aload_n hx hb dL_law_487 rfl (lv_at hl 1 rfl) ?_
  refine gcV_iT (T := kT g hh i0 i1) (ws := kF g qX qM AX AC AD AP AW AY AK AM (eC d1) (eC f1) (eC e1) (eC nn) (eC (pw mm d)) σW σY σK ℓK ℓM QQ (kV hh)) (As := []) (rest := []) (ci := 7) (q := (RX7, TX7, 34)) F hK hN hP hD hS hA (m_X7_done l g H.size qM AM (eC (pw mm d)) ℓM r (eC (pw n1 d1)) m1) gL_law_X7_done kX7_done rfl rfl rfl rfl ⟨(Nat.le_of_ble_eq_true rfl), (Nat.le_of_ble_eq_true rfl)⟩ [32, 33, 34, 35, 36, 37, 38, 39, 40, 41, 42, 43, 44, 45, 46, 47, 48, 49, 50, 51, 52] [0, 1, 2, 3, 4, 5, 6, 7, 8, 9, 10, 11, 12, 13, 14, 15, 16, 17, 18, 19, 20, 21, 22, 23, 24, 25, 26, 27, 28, 29, 30, 31] rfl rfl rfl (by decide) rfl rfl rfl rfl rfl hl.1 (Nat.le_of_ble_eq_true rfl) dL_law_488 ⟨by have := hcR.1; omega, by have := hcR.2; omega⟩ (fun r_w u_w H locs hw hP hD hS => ?_)
  have hP : va_P g.1 vwCl ((kT g hh i0 i1) ++ (kF g qX qM AX AC AD AP AW AY AK AM (eC d1) (eC f1) (eC e1) (eC nn) (eC (pw n1 d1)) σW σY σK ℓK ℓM QQ (kV hh))) H := hP
  have hD : va_D Z ((kT g hh i0 i1) ++ (kF g qX qM AX AC AD AP AW AY AK AM (eC d1) (eC f1) (eC e1) (eC nn) (eC (pw n1 d1)) σW σY σK ℓK ℓM QQ (kV hh))) := hD
  obtain rfl := hw
  refine lv_pop hx hb dL_law_491 rfl ?_
  refine lv_goto (tgt := 949) hx hb dL_law_492 (by decide) ?_
  refine W.widen (k := cells + 8) (n := slots + 10240) (by omega) (by omega) ?_
  exact K d1 f1 e1 nn n1 σW σY σK ℓK ℓM QQ hh i0 i1 (hO.dn k1 k2 k3 k4 k5 k6) H locs ls hP hD hS hl
set_option maxHeartbeats 8000000 in
set_option maxRecDepth 100000 in
theorem ws_495 {p : Program} {l : Launch} {e : Env} {s : State} {m : MethodId} {below : List Frame} {meth : Method} {c : Code} {b L : Nat} {xs : Nat → Int32} {g : GT} {Z : Nat → Prop} {H : Heap} {locs : List Loc} {ls : Array Slot} {qX qM : Nat} {AX AC AD AP AW AY AK AM : Nat → Nat} {i cells slots : Nat} {d f ep n mm : Nat → Int → Int} {σW σY σK : qS} {ℓK ℓM : qL} {QQ : Nat → Option Nat} {hh : Option (Nat × qS)} {i0 i1 : Option (Nat × (Nat → Nat) × (Nat → Int → Int))}
    (hx : p.tables.exec = Jvm.exec) (hb : c.code = cL_law) (F : CallFix p m c cL_law 4 s #[Value.ref b] wsL_law RL) (hK : va_K g.1 vwCl (tyL g) s) (hN : NW s) (hA : ∀ q : Nat, s.heap.size ≤ q → Z q) (hbA : ¬ Z b) (hX : va_X b L xs s s.heap) (hbl : b < s.heap.size) (hi : i + 7 ≤ L) (hL : L ≤ 3584) (hcR : cells + 8 ≤ room_1.cells ∧ slots + 10240 ≤ room_1.slots)
    (K : lw_C p l e s m below meth c b g Z qX qM AX AC AD AP AW AY AK AM i (cells + 8) (slots + 10240) 949) (hO : kO d f ep mm QQ i0 i1) (hP : va_P g.1 vwCl (kT g hh i0 i1 ++ kF g qX qM AX AC AD AP AW AY AK AM (eC d) (eC f) (eC ep) (eC n) (eC (pw mm d)) σW σY σK ℓK ℓM QQ (kV hh)) H) (hD : va_D Z (kT g hh i0 i1 ++ kF g qX qM AX AC AD AP AW AY AK AM (eC d) (eC f) (eC ep) (eC n) (eC (pw mm d)) σW σY σK ℓK ℓM QQ (kV hh))) (hS : va_S Z s.heap H locs) (hl : lv_has ls 4 [(3, .int (nI i)), (2, .ref qM), (1, .ref qX), (0, .ref b)]) : W p l e room_1 s m #[Value.ref b] below meth c H locs cells slots (lw_Z below #[Value.ref b] s) (F0 m 495 ls []) := by
  obtain ⟨⟨r1, s1⟩, x1, -⟩ := e_near (d := d) σW (xs (nI (i + 1)).toNatClampNeg) (xs (nI (i + 2)).toNatClampNeg) (xs (nI (i + 3)).toNatClampNeg)
  obtain ⟨r2, n1, m1, k2⟩ := msc_fr (v_near mm d ℓM (xs (nI (i + 1)).toNatClampNeg) (xs (nI (i + 2)).toNatClampNeg) (xs (nI (i + 3)).toNatClampNeg))
  refine lv_aload_n hx hb dL_law_495 rfl (lv_at hl 2 rfl) ?_
  refine lv_aload_n hx hb dL_law_496 rfl (lv_at hl 3 rfl) ?_
  refine lv_iload_n hx hb dL_law_497 rfl (lv_at hl 0 rfl) ?_
  refine lv_iconst (v := 1) hx hb dL_law_498 (by decide) ?_
  refine lv_iadd hx hb dL_law_499 ?_
  refine gtop (y := nI (i + 1)) (nI_adk i 1) ?_
  refine va_sld hx hb hX hbl hbA hS (vp_in_nI (n := i + 1) (by omega) (by omega)) dL_law_500 ?_
  refine lv_aload_n hx hb dL_law_501 rfl (lv_at hl 3 rfl) ?_
  refine lv_iload_n hx hb dL_law_502 rfl (lv_at hl 0 rfl) ?_
  refine lv_iconst (v := 2) hx hb dL_law_503 (by decide) ?_
  refine lv_iadd hx hb dL_law_504 ?_
  refine gtop (y := nI (i + 2)) (nI_adk i 2) ?_
  refine va_sld hx hb hX hbl hbA hS (vp_in_nI (n := i + 2) (by omega) (by omega)) dL_law_505 ?_
  refine lv_aload_n hx hb dL_law_506 rfl (lv_at hl 3 rfl) ?_
  refine lv_iload_n hx hb dL_law_507 rfl (lv_at hl 0 rfl) ?_
  refine lv_iconst (v := 3) hx hb dL_law_508 (by decide) ?_
  refine lv_iadd hx hb dL_law_509 ?_
  refine gtop (y := nI (i + 3)) (nI_adk i 3) ?_
  refine va_sld hx hb hX hbl hbA hS (vp_in_nI (n := i + 3) (by omega) (by omega)) dL_law_510 ?_
  refine gcV_iT (T := kT g hh i0 i1) (ws := kF g qX qM AX AC AD AP AW AY AK AM (eC d) (eC f) (eC ep) (eC n) (eC (pw mm d)) σW σY σK ℓK ℓM QQ (kV hh)) (As := [.int (xs (nI (i + 1)).toNatClampNeg), .int (xs (nI (i + 2)).toNatClampNeg), .int (xs (nI (i + 3)).toNatClampNeg)]) (rest := []) (ci := 6) (q := (RX6, TX6, 8)) F hK hN hP hD hS hA (m_X6_near l g H.size qX AX AW (kV hh) σW AC (eC d) (xs (nI (i + 1)).toNatClampNeg) (xs (nI (i + 2)).toNatClampNeg) (xs (nI (i + 3)).toNatClampNeg) r1 s1 x1) gL_law_X6_near kX6_near rfl rfl rfl rfl ⟨(Nat.le_of_ble_eq_true rfl), (Nat.le_of_ble_eq_true rfl)⟩ [0, 21, 22, 23, 1, 2, 3, 4, 5, 6, 7, 8] [9, 10, 11, 12, 13, 14, 15, 16, 17, 18, 19, 20, 24, 25, 26, 27, 28, 29, 30, 31, 32, 33, 34, 35, 36, 37, 38, 39, 40, 41, 42, 43, 44, 45, 46, 47, 48, 49, 50, 51, 52] rfl rfl rfl (by decide) rfl rfl rfl rfl rfl hl.1 (Nat.le_of_ble_eq_true rfl) dL_law_511 ⟨by have := hcR.1; omega, by have := hcR.2; omega⟩ (fun r_w u_w H locs hw hP hD hS => ?_)
  have hP : va_P g.1 vwCl ((kT g hh i0 i1) ++ (kF g qX qM AX AC AD AP AW AY AK AM (eC d) (eC f) (eC ep) (eC n) (eC (pw mm d)) s1 σY σK ℓK ℓM QQ (kV hh))) H := tP_sub hP [41, 45, 46, 47, 48, 49, 50, 51, 52, 0, 1, 2, 3, 4, 5, 6, 7, 8, 9, 10, 11, 42, 43, 44, 12, 13, 14, 15, 16, 17, 18, 19, 20, 21, 22, 23, 24, 25, 26, 27, 28, 29, 30, 31, 32, 33, 34, 35, 36, 37, 38, 39, 40] rfl
  have hD : va_D Z ((kT g hh i0 i1) ++ (kF g qX qM AX AC AD AP AW AY AK AM (eC d) (eC f) (eC ep) (eC n) (eC (pw mm d)) s1 σY σK ℓK ℓM QQ (kV hh))) := tD_sub hD [41, 45, 46, 47, 48, 49, 50, 51, 52, 0, 1, 2, 3, 4, 5, 6, 7, 8, 9, 10, 11, 42, 43, 44, 12, 13, 14, 15, 16, 17, 18, 19, 20, 21, 22, 23, 24, 25, 26, 27, 28, 29, 30, 31, 32, 33, 34, 35, 36, 37, 38, 39, 40] (by decide) rfl
  obtain rfl := hw
  refine lv_pop hx hb dL_law_514 rfl ?_
  refine lv_aload_n hx hb dL_law_515 rfl (lv_at hl 1 rfl) ?_
  refine lv_aload_n hx hb dL_law_516 rfl (lv_at hl 3 rfl) ?_
  refine lv_iload_n hx hb dL_law_517 rfl (lv_at hl 0 rfl) ?_
  refine lv_iconst (v := 1) hx hb dL_law_518 (by decide) ?_
  refine lv_iadd hx hb dL_law_519 ?_
  refine gtop (y := nI (i + 1)) (nI_adk i 1) ?_
  refine va_sld hx hb hX hbl hbA hS (vp_in_nI (n := i + 1) (by omega) (by omega)) dL_law_520 ?_
  refine lv_aload_n hx hb dL_law_521 rfl (lv_at hl 3 rfl) ?_
  refine lv_iload_n hx hb dL_law_522 rfl (lv_at hl 0 rfl) ?_
  refine lv_iconst (v := 2) hx hb dL_law_523 (by decide) ?_
  refine lv_iadd hx hb dL_law_524 ?_
  refine gtop (y := nI (i + 2)) (nI_adk i 2) ?_
  refine va_sld hx hb hX hbl hbA hS (vp_in_nI (n := i + 2) (by omega) (by omega)) dL_law_525 ?_
  refine lv_aload_n hx hb dL_law_526 rfl (lv_at hl 3 rfl) ?_
  refine lv_iload_n hx hb dL_law_527 rfl (lv_at hl 0 rfl) ?_
  refine lv_iconst (v := 3) hx hb dL_law_528 (by decide) ?_
  refine lv_iadd hx hb dL_law_529 ?_
  refine gtop (y := nI (i + 3)) (nI_adk i 3) ?_
  refine va_sld hx hb hX hbl hbA hS (vp_in_nI (n := i + 3) (by omega) (by omega)) dL_law_530 ?_
  refine gcV_iT (T := kT g hh i0 i1) (ws := kF g qX qM AX AC AD AP AW AY AK AM (eC d) (eC f) (eC ep) (eC n) (eC (pw mm d)) s1 σY σK ℓK ℓM QQ (kV hh)) (As := [.int (xs (nI (i + 1)).toNatClampNeg), .int (xs (nI (i + 2)).toNatClampNeg), .int (xs (nI (i + 3)).toNatClampNeg)]) (rest := []) (ci := 7) (q := (RX7, TX7, 34)) F hK hN hP hD hS hA (m_X7_near l g H.size qM AM (eC (pw mm d)) ℓM (xs (nI (i + 1)).toNatClampNeg) (xs (nI (i + 2)).toNatClampNeg) (xs (nI (i + 3)).toNatClampNeg) r2 (eC (pw n1 d)) m1) gL_law_X7_near kX7_near rfl rfl rfl rfl ⟨(Nat.le_of_ble_eq_true rfl), (Nat.le_of_ble_eq_true rfl)⟩ [32, 33, 34, 35, 36, 37, 38, 39, 40, 41, 42, 43, 44, 45, 46, 47, 48, 49, 50, 51, 52] [0, 1, 2, 3, 4, 5, 6, 7, 8, 9, 10, 11, 12, 13, 14, 15, 16, 17, 18, 19, 20, 21, 22, 23, 24, 25, 26, 27, 28, 29, 30, 31] rfl rfl rfl (by decide) rfl rfl rfl rfl rfl hl.1 (Nat.le_of_ble_eq_true rfl) dL_law_531 ⟨by have := hcR.1; omega, by have := hcR.2; omega⟩ (fun r_w u_w H locs hw hP hD hS => ?_)
  have hP : va_P g.1 vwCl ((kT g hh i0 i1) ++ (kF g qX qM AX AC AD AP AW AY AK AM (eC d) (eC f) (eC ep) (eC n) (eC (pw n1 d)) s1 σY σK ℓK ℓM QQ (kV hh))) H := hP
  have hD : va_D Z ((kT g hh i0 i1) ++ (kF g qX qM AX AC AD AP AW AY AK AM (eC d) (eC f) (eC ep) (eC n) (eC (pw n1 d)) s1 σY σK ℓK ℓM QQ (kV hh))) := hD
  obtain rfl := hw
  refine lv_pop hx hb dL_law_534 rfl ?_
  refine lv_goto (tgt := 949) hx hb dL_law_535 (by decide) ?_
  refine W.widen (k := cells + 8) (n := slots + 10240) (by omega) (by omega) ?_
  exact K d f ep n n1 s1 σY σK ℓK ℓM QQ hh i0 i1 (hO.fN k2) H locs ls hP hD hS hl
set_option maxHeartbeats 8000000 in
set_option maxRecDepth 100000 in
theorem ws_538 {p : Program} {l : Launch} {e : Env} {s : State} {m : MethodId} {below : List Frame} {meth : Method} {c : Code} {b L : Nat} {xs : Nat → Int32} {g : GT} {Z : Nat → Prop} {H : Heap} {locs : List Loc} {ls : Array Slot} {qX qM : Nat} {AX AC AD AP AW AY AK AM : Nat → Nat} {i cells slots : Nat} {d f ep n mm : Nat → Int → Int} {σW σY σK : qS} {ℓK ℓM : qL} {QQ : Nat → Option Nat} {hh : Option (Nat × qS)} {i0 i1 : Option (Nat × (Nat → Nat) × (Nat → Int → Int))}
    (hx : p.tables.exec = Jvm.exec) (hb : c.code = cL_law) (F : CallFix p m c cL_law 4 s #[Value.ref b] wsL_law RL) (hK : va_K g.1 vwCl (tyL g) s) (hN : NW s) (hA : ∀ q : Nat, s.heap.size ≤ q → Z q) (hbA : ¬ Z b) (hX : va_X b L xs s s.heap) (hbl : b < s.heap.size) (hi : i + 7 ≤ L) (hL : L ≤ 3584) (hcR : cells + 8 ≤ room_1.cells ∧ slots + 10240 ≤ room_1.slots)
    (K : lw_C p l e s m below meth c b g Z qX qM AX AC AD AP AW AY AK AM i (cells + 8) (slots + 10240) 949) (hO : kO d f ep mm QQ i0 i1) (hP : va_P g.1 vwCl (kT g hh i0 i1 ++ kF g qX qM AX AC AD AP AW AY AK AM (eC d) (eC f) (eC ep) (eC n) (eC (pw mm d)) σW σY σK ℓK ℓM QQ (kV hh)) H) (hD : va_D Z (kT g hh i0 i1 ++ kF g qX qM AX AC AD AP AW AY AK AM (eC d) (eC f) (eC ep) (eC n) (eC (pw mm d)) σW σY σK ℓK ℓM QQ (kV hh))) (hS : va_S Z s.heap H locs) (hl : lv_has ls 4 [(3, .int (nI i)), (2, .ref qM), (1, .ref qX), (0, .ref b)]) : W p l e room_1 s m #[Value.ref b] below meth c H locs cells slots (lw_Z below #[Value.ref b] s) (F0 m 538 ls []) := by
  obtain ⟨r2, n1, m1, k2⟩ := msc_fr (v_round mm d ℓM (xs (nI (i + 1)).toNatClampNeg) (xs (nI (i + 2)).toNatClampNeg))
  cases hh with
  | none =>
    by_cases hr : rin (xs (nI (i + 1)).toNatClampNeg) (xs (nI (i + 2)).toNatClampNeg)
    · obtain ⟨⟨r1, s1, h1⟩, x1, -⟩ := e_round_n σW hO.xd hr
      have hP : va_P g.1 vwCl ((tI g i0 ++ tI g i1) ++ (kF g qX qM AX AC AD AP AW AY AK AM (eC d) (eC f) (eC ep) (eC n) (eC (pw mm d)) σW σY σK ℓK ℓM QQ .null)) H := hP
      have hD : va_D Z ((tI g i0 ++ tI g i1) ++ (kF g qX qM AX AC AD AP AW AY AK AM (eC d) (eC f) (eC ep) (eC n) (eC (pw mm d)) σW σY σK ℓK ℓM QQ .null)) := hD
      refine lv_aload_n hx hb dL_law_538 rfl (lv_at hl 2 rfl) ?_
      refine lv_aload_n hx hb dL_law_539 rfl (lv_at hl 3 rfl) ?_
      refine lv_iload_n hx hb dL_law_540 rfl (lv_at hl 0 rfl) ?_
      refine lv_iconst (v := 1) hx hb dL_law_541 (by decide) ?_
      refine lv_iadd hx hb dL_law_542 ?_
      refine gtop (y := nI (i + 1)) (nI_adk i 1) ?_
      refine va_sld hx hb hX hbl hbA hS (vp_in_nI (n := i + 1) (by omega) (by omega)) dL_law_543 ?_
      refine lv_aload_n hx hb dL_law_544 rfl (lv_at hl 3 rfl) ?_
      refine lv_iload_n hx hb dL_law_545 rfl (lv_at hl 0 rfl) ?_
      refine lv_iconst (v := 2) hx hb dL_law_546 (by decide) ?_
      refine lv_iadd hx hb dL_law_547 ?_
      refine gtop (y := nI (i + 2)) (nI_adk i 2) ?_
      refine va_sld hx hb hX hbl hbA hS (vp_in_nI (n := i + 2) (by omega) (by omega)) dL_law_548 ?_
      refine gcV_iT (T := tI g i0 ++ tI g i1) (ws := kF g qX qM AX AC AD AP AW AY AK AM (eC d) (eC f) (eC ep) (eC n) (eC (pw mm d)) σW σY σK ℓK ℓM QQ .null) (As := [.int (xs (nI (i + 1)).toNatClampNeg), .int (xs (nI (i + 2)).toNatClampNeg)]) (rest := []) (ci := 6) (q := (RX6, TX6, 8)) F hK hN hP hD hS hA (m_X6_round_n l g H.size qX AX AW σW AC (eC d) (xs (nI (i + 1)).toNatClampNeg) (xs (nI (i + 2)).toNatClampNeg) r1 s1 h1 x1) gL_law_X6_round kX6_round rfl rfl rfl rfl ⟨(Nat.le_of_ble_eq_true rfl), (Nat.le_of_ble_eq_true rfl)⟩ [0, 21, 22, 23, 1, 2, 3, 4, 5, 6, 7, 8] [9, 10, 11, 12, 13, 14, 15, 16, 17, 18, 19, 20, 24, 25, 26, 27, 28, 29, 30, 31, 32, 33, 34, 35, 36, 37, 38, 39, 40, 41, 42, 43, 44, 45, 46, 47, 48, 49, 50, 51, 52] rfl rfl rfl (by decide) rfl rfl rfl rfl rfl hl.1 (Nat.le_of_ble_eq_true rfl) dL_law_549 ⟨by have := hcR.1; omega, by have := hcR.2; omega⟩ (fun r_w u_w H locs hw hP hD hS => ?_)
      have hP : va_P g.1 vwCl ((tI g i0 ++ tI g i1) ++ (wH g u_w h1 ++ kF g qX qM AX AC AD AP AW AY AK AM (eC d) (eC f) (eC ep) (eC n) (eC (pw mm d)) s1 σY σK ℓK ℓM QQ (.ref u_w))) H := tP_sub hP [53, 41, 45, 46, 47, 48, 49, 50, 51, 52, 0, 1, 2, 3, 4, 5, 6, 7, 8, 9, 10, 11, 42, 43, 44, 12, 13, 14, 15, 16, 17, 18, 19, 20, 21, 22, 23, 24, 25, 26, 27, 28, 29, 30, 31, 32, 33, 34, 35, 36, 37, 38, 39, 40] rfl
      have hD : va_D Z ((tI g i0 ++ tI g i1) ++ (wH g u_w h1 ++ kF g qX qM AX AC AD AP AW AY AK AM (eC d) (eC f) (eC ep) (eC n) (eC (pw mm d)) s1 σY σK ℓK ℓM QQ (.ref u_w))) := tD_sub hD [53, 41, 45, 46, 47, 48, 49, 50, 51, 52, 0, 1, 2, 3, 4, 5, 6, 7, 8, 9, 10, 11, 42, 43, 44, 12, 13, 14, 15, 16, 17, 18, 19, 20, 21, 22, 23, 24, 25, 26, 27, 28, 29, 30, 31, 32, 33, 34, 35, 36, 37, 38, 39, 40] (by decide) rfl
      obtain rfl := hw
      obtain ⟨hq, rfl⟩ : ∃ z, z = u_w := ⟨_, rfl⟩
      have hP : va_P g.1 vwCl ((kT g (some (hq, h1)) i0 i1) ++ (kF g qX qM AX AC AD AP AW AY AK AM (eC d) (eC f) (eC ep) (eC n) (eC (pw mm d)) s1 σY σK ℓK ℓM QQ (kV (some (hq, h1))))) H := P_perm hP (pm_h (wH g hq h1) (tI g i0 ++ tI g i1) _).symm
      have hD : va_D Z ((kT g (some (hq, h1)) i0 i1) ++ (kF g qX qM AX AC AD AP AW AY AK AM (eC d) (eC f) (eC ep) (eC n) (eC (pw mm d)) s1 σY σK ℓK ℓM QQ (kV (some (hq, h1))))) := D_perm hD (pm_h (wH g hq h1) (tI g i0 ++ tI g i1) _).symm
      refine lv_pop hx hb dL_law_552 rfl ?_
      refine lv_aload_n hx hb dL_law_553 rfl (lv_at hl 1 rfl) ?_
      refine lv_aload_n hx hb dL_law_554 rfl (lv_at hl 3 rfl) ?_
      refine lv_iload_n hx hb dL_law_555 rfl (lv_at hl 0 rfl) ?_
      refine lv_iconst (v := 1) hx hb dL_law_556 (by decide) ?_
      refine lv_iadd hx hb dL_law_557 ?_
      refine gtop (y := nI (i + 1)) (nI_adk i 1) ?_
      refine va_sld hx hb hX hbl hbA hS (vp_in_nI (n := i + 1) (by omega) (by omega)) dL_law_558 ?_
      refine lv_aload_n hx hb dL_law_559 rfl (lv_at hl 3 rfl) ?_
      refine lv_iload_n hx hb dL_law_560 rfl (lv_at hl 0 rfl) ?_
      refine lv_iconst (v := 2) hx hb dL_law_561 (by decide) ?_
      refine lv_iadd hx hb dL_law_562 ?_
      refine gtop (y := nI (i + 2)) (nI_adk i 2) ?_
      refine va_sld hx hb hX hbl hbA hS (vp_in_nI (n := i + 2) (by omega) (by omega)) dL_law_563 ?_
      refine gcV_iT (T := kT g (some (hq, h1)) i0 i1) (ws := kF g qX qM AX AC AD AP AW AY AK AM (eC d) (eC f) (eC ep) (eC n) (eC (pw mm d)) s1 σY σK ℓK ℓM QQ (kV (some (hq, h1)))) (As := [.int (xs (nI (i + 1)).toNatClampNeg), .int (xs (nI (i + 2)).toNatClampNeg)]) (rest := []) (ci := 7) (q := (RX7, TX7, 34)) F hK hN hP hD hS hA (m_X7_round l g H.size qM AM (eC (pw mm d)) ℓM (xs (nI (i + 1)).toNatClampNeg) (xs (nI (i + 2)).toNatClampNeg) r2 (eC (pw n1 d)) m1) gL_law_X7_round kX7_round rfl rfl rfl rfl ⟨(Nat.le_of_ble_eq_true rfl), (Nat.le_of_ble_eq_true rfl)⟩ [32, 33, 34, 35, 36, 37, 38, 39, 40, 41, 42, 43, 44, 45, 46, 47, 48, 49, 50, 51, 52] [0, 1, 2, 3, 4, 5, 6, 7, 8, 9, 10, 11, 12, 13, 14, 15, 16, 17, 18, 19, 20, 21, 22, 23, 24, 25, 26, 27, 28, 29, 30, 31] rfl rfl rfl (by decide) rfl rfl rfl rfl rfl hl.1 (Nat.le_of_ble_eq_true rfl) dL_law_564 ⟨by have := hcR.1; omega, by have := hcR.2; omega⟩ (fun r_w u_w H locs hw hP hD hS => ?_)
      have hP : va_P g.1 vwCl ((kT g (some (hq, h1)) i0 i1) ++ (kF g qX qM AX AC AD AP AW AY AK AM (eC d) (eC f) (eC ep) (eC n) (eC (pw n1 d)) s1 σY σK ℓK ℓM QQ (kV (some (hq, h1))))) H := hP
      have hD : va_D Z ((kT g (some (hq, h1)) i0 i1) ++ (kF g qX qM AX AC AD AP AW AY AK AM (eC d) (eC f) (eC ep) (eC n) (eC (pw n1 d)) s1 σY σK ℓK ℓM QQ (kV (some (hq, h1))))) := hD
      obtain rfl := hw
      refine lv_pop hx hb dL_law_567 rfl ?_
      refine lv_goto (tgt := 949) hx hb dL_law_568 (by decide) ?_
      refine W.widen (k := cells + 8) (n := slots + 10240) (by omega) (by omega) ?_
      exact K d f ep n n1 s1 σY σK ℓK ℓM QQ (some (hq, h1)) i0 i1 (hO.fN k2) H locs ls hP hD hS hl
    · obtain ⟨r1, x1, -⟩ := e_round_x σW (eC d) hr
      refine lv_aload_n hx hb dL_law_538 rfl (lv_at hl 2 rfl) ?_
      refine lv_aload_n hx hb dL_law_539 rfl (lv_at hl 3 rfl) ?_
      refine lv_iload_n hx hb dL_law_540 rfl (lv_at hl 0 rfl) ?_
      refine lv_iconst (v := 1) hx hb dL_law_541 (by decide) ?_
      refine lv_iadd hx hb dL_law_542 ?_
      refine gtop (y := nI (i + 1)) (nI_adk i 1) ?_
      refine va_sld hx hb hX hbl hbA hS (vp_in_nI (n := i + 1) (by omega) (by omega)) dL_law_543 ?_
      refine lv_aload_n hx hb dL_law_544 rfl (lv_at hl 3 rfl) ?_
      refine lv_iload_n hx hb dL_law_545 rfl (lv_at hl 0 rfl) ?_
      refine lv_iconst (v := 2) hx hb dL_law_546 (by decide) ?_
      refine lv_iadd hx hb dL_law_547 ?_
      refine gtop (y := nI (i + 2)) (nI_adk i 2) ?_
      refine va_sld hx hb hX hbl hbA hS (vp_in_nI (n := i + 2) (by omega) (by omega)) dL_law_548 ?_
      refine gcV_iT (T := kT g none i0 i1) (ws := kF g qX qM AX AC AD AP AW AY AK AM (eC d) (eC f) (eC ep) (eC n) (eC (pw mm d)) σW σY σK ℓK ℓM QQ .null) (As := [.int (xs (nI (i + 1)).toNatClampNeg), .int (xs (nI (i + 2)).toNatClampNeg)]) (rest := []) (ci := 6) (q := (RX6, TX6, 8)) F hK hN hP hD hS hA (m_X6_round_x l g H.size qX AX AW σW AC (eC d) (xs (nI (i + 1)).toNatClampNeg) (xs (nI (i + 2)).toNatClampNeg) r1 x1) gL_law_X6_round kX6_round rfl rfl rfl rfl ⟨(Nat.le_of_ble_eq_true rfl), (Nat.le_of_ble_eq_true rfl)⟩ [0, 21, 22, 23, 1, 2, 3, 4, 5, 6, 7, 8] [9, 10, 11, 12, 13, 14, 15, 16, 17, 18, 19, 20, 24, 25, 26, 27, 28, 29, 30, 31, 32, 33, 34, 35, 36, 37, 38, 39, 40, 41, 42, 43, 44, 45, 46, 47, 48, 49, 50, 51, 52] rfl rfl rfl (by decide) rfl rfl rfl rfl rfl hl.1 (Nat.le_of_ble_eq_true rfl) dL_law_549 ⟨by have := hcR.1; omega, by have := hcR.2; omega⟩ (fun r_w u_w H locs hw hP hD hS => ?_)
      have hP : va_P g.1 vwCl ((kT g none i0 i1) ++ (kF g qX qM AX AC AD AP AW AY AK AM (eC d) (eC f) (eC ep) (eC n) (eC (pw mm d)) σW σY σK ℓK ℓM QQ (kV none))) H := tP_sub hP [41, 45, 46, 47, 48, 49, 50, 51, 52, 0, 1, 2, 3, 4, 5, 6, 7, 8, 9, 10, 11, 42, 43, 44, 12, 13, 14, 15, 16, 17, 18, 19, 20, 21, 22, 23, 24, 25, 26, 27, 28, 29, 30, 31, 32, 33, 34, 35, 36, 37, 38, 39, 40] rfl
      have hD : va_D Z ((kT g none i0 i1) ++ (kF g qX qM AX AC AD AP AW AY AK AM (eC d) (eC f) (eC ep) (eC n) (eC (pw mm d)) σW σY σK ℓK ℓM QQ (kV none))) := tD_sub hD [41, 45, 46, 47, 48, 49, 50, 51, 52, 0, 1, 2, 3, 4, 5, 6, 7, 8, 9, 10, 11, 42, 43, 44, 12, 13, 14, 15, 16, 17, 18, 19, 20, 21, 22, 23, 24, 25, 26, 27, 28, 29, 30, 31, 32, 33, 34, 35, 36, 37, 38, 39, 40] (by decide) rfl
      obtain rfl := hw
      refine lv_pop hx hb dL_law_552 rfl ?_
      refine lv_aload_n hx hb dL_law_553 rfl (lv_at hl 1 rfl) ?_
      refine lv_aload_n hx hb dL_law_554 rfl (lv_at hl 3 rfl) ?_
      refine lv_iload_n hx hb dL_law_555 rfl (lv_at hl 0 rfl) ?_
      refine lv_iconst (v := 1) hx hb dL_law_556 (by decide) ?_
      refine lv_iadd hx hb dL_law_557 ?_
      refine gtop (y := nI (i + 1)) (nI_adk i 1) ?_
      refine va_sld hx hb hX hbl hbA hS (vp_in_nI (n := i + 1) (by omega) (by omega)) dL_law_558 ?_
      refine lv_aload_n hx hb dL_law_559 rfl (lv_at hl 3 rfl) ?_
      refine lv_iload_n hx hb dL_law_560 rfl (lv_at hl 0 rfl) ?_
      refine lv_iconst (v := 2) hx hb dL_law_561 (by decide) ?_
      refine lv_iadd hx hb dL_law_562 ?_
      refine gtop (y := nI (i + 2)) (nI_adk i 2) ?_
      refine va_sld hx hb hX hbl hbA hS (vp_in_nI (n := i + 2) (by omega) (by omega)) dL_law_563 ?_
      refine gcV_iT (T := kT g none i0 i1) (ws := kF g qX qM AX AC AD AP AW AY AK AM (eC d) (eC f) (eC ep) (eC n) (eC (pw mm d)) σW σY σK ℓK ℓM QQ (kV none)) (As := [.int (xs (nI (i + 1)).toNatClampNeg), .int (xs (nI (i + 2)).toNatClampNeg)]) (rest := []) (ci := 7) (q := (RX7, TX7, 34)) F hK hN hP hD hS hA (m_X7_round l g H.size qM AM (eC (pw mm d)) ℓM (xs (nI (i + 1)).toNatClampNeg) (xs (nI (i + 2)).toNatClampNeg) r2 (eC (pw n1 d)) m1) gL_law_X7_round kX7_round rfl rfl rfl rfl ⟨(Nat.le_of_ble_eq_true rfl), (Nat.le_of_ble_eq_true rfl)⟩ [32, 33, 34, 35, 36, 37, 38, 39, 40, 41, 42, 43, 44, 45, 46, 47, 48, 49, 50, 51, 52] [0, 1, 2, 3, 4, 5, 6, 7, 8, 9, 10, 11, 12, 13, 14, 15, 16, 17, 18, 19, 20, 21, 22, 23, 24, 25, 26, 27, 28, 29, 30, 31] rfl rfl rfl (by decide) rfl rfl rfl rfl rfl hl.1 (Nat.le_of_ble_eq_true rfl) dL_law_564 ⟨by have := hcR.1; omega, by have := hcR.2; omega⟩ (fun r_w u_w H locs hw hP hD hS => ?_)
      have hP : va_P g.1 vwCl ((kT g none i0 i1) ++ (kF g qX qM AX AC AD AP AW AY AK AM (eC d) (eC f) (eC ep) (eC n) (eC (pw n1 d)) σW σY σK ℓK ℓM QQ (kV none))) H := hP
      have hD : va_D Z ((kT g none i0 i1) ++ (kF g qX qM AX AC AD AP AW AY AK AM (eC d) (eC f) (eC ep) (eC n) (eC (pw n1 d)) σW σY σK ℓK ℓM QQ (kV none))) := hD
      obtain rfl := hw
      refine lv_pop hx hb dL_law_567 rfl ?_
      refine lv_goto (tgt := 949) hx hb dL_law_568 (by decide) ?_
      refine W.widen (k := cells + 8) (n := slots + 10240) (by omega) (by omega) ?_
      exact K d f ep n n1 σW σY σK ℓK ℓM QQ none i0 i1 (hO.fN k2) H locs ls hP hD hS hl
  | some hz =>
    obtain ⟨qH, h0⟩ := hz
    obtain ⟨⟨r1, s1, h1⟩, x1, -⟩ := e_round σW h0 hO.xd (xs (nI (i + 1)).toNatClampNeg) (xs (nI (i + 2)).toNatClampNeg)
    have hP : va_P g.1 vwCl ((tI g i0 ++ tI g i1) ++ (wH g qH h0 ++ kF g qX qM AX AC AD AP AW AY AK AM (eC d) (eC f) (eC ep) (eC n) (eC (pw mm d)) σW σY σK ℓK ℓM QQ (.ref qH))) H := P_perm hP (pm_h (wH g qH h0) (tI g i0 ++ tI g i1) _)
    have hD : va_D Z ((tI g i0 ++ tI g i1) ++ (wH g qH h0 ++ kF g qX qM AX AC AD AP AW AY AK AM (eC d) (eC f) (eC ep) (eC n) (eC (pw mm d)) σW σY σK ℓK ℓM QQ (.ref qH))) := D_perm hD (pm_h (wH g qH h0) (tI g i0 ++ tI g i1) _)
    refine lv_aload_n hx hb dL_law_538 rfl (lv_at hl 2 rfl) ?_
    refine lv_aload_n hx hb dL_law_539 rfl (lv_at hl 3 rfl) ?_
    refine lv_iload_n hx hb dL_law_540 rfl (lv_at hl 0 rfl) ?_
    refine lv_iconst (v := 1) hx hb dL_law_541 (by decide) ?_
    refine lv_iadd hx hb dL_law_542 ?_
    refine gtop (y := nI (i + 1)) (nI_adk i 1) ?_
    refine va_sld hx hb hX hbl hbA hS (vp_in_nI (n := i + 1) (by omega) (by omega)) dL_law_543 ?_
    refine lv_aload_n hx hb dL_law_544 rfl (lv_at hl 3 rfl) ?_
    refine lv_iload_n hx hb dL_law_545 rfl (lv_at hl 0 rfl) ?_
    refine lv_iconst (v := 2) hx hb dL_law_546 (by decide) ?_
    refine lv_iadd hx hb dL_law_547 ?_
    refine gtop (y := nI (i + 2)) (nI_adk i 2) ?_
    refine va_sld hx hb hX hbl hbA hS (vp_in_nI (n := i + 2) (by omega) (by omega)) dL_law_548 ?_
    refine gcV_iT (T := (tI g i0 ++ tI g i1)) (ws := (wH g qH h0 ++ kF g qX qM AX AC AD AP AW AY AK AM (eC d) (eC f) (eC ep) (eC n) (eC (pw mm d)) σW σY σK ℓK ℓM QQ (.ref qH))) (As := [.int (xs (nI (i + 1)).toNatClampNeg), .int (xs (nI (i + 2)).toNatClampNeg)]) (rest := []) (ci := 6) (q := (RX6, TX6, 8)) F hK hN hP hD hS hA (m_X6_round l g H.size qX AX AW σW qH h0 AC (eC d) (xs (nI (i + 1)).toNatClampNeg) (xs (nI (i + 2)).toNatClampNeg) r1 s1 h1 x1) gL_law_X6_round kX6_round rfl rfl rfl rfl ⟨(Nat.le_of_ble_eq_true rfl), (Nat.le_of_ble_eq_true rfl)⟩ [1, 22, 23, 24, 0, 2, 3, 4, 5, 6, 7, 8, 9] [10, 11, 12, 13, 14, 15, 16, 17, 18, 19, 20, 21, 25, 26, 27, 28, 29, 30, 31, 32, 33, 34, 35, 36, 37, 38, 39, 40, 41, 42, 43, 44, 45, 46, 47, 48, 49, 50, 51, 52, 53] rfl rfl rfl (by decide) rfl rfl rfl rfl rfl hl.1 (Nat.le_of_ble_eq_true rfl) dL_law_549 ⟨by have := hcR.1; omega, by have := hcR.2; omega⟩ (fun r_w u_w H locs hw hP hD hS => ?_)
    have hP : va_P g.1 vwCl ((tI g i0 ++ tI g i1) ++ (wH g qH h1 ++ kF g qX qM AX AC AD AP AW AY AK AM (eC d) (eC f) (eC ep) (eC n) (eC (pw mm d)) s1 σY σK ℓK ℓM QQ (.ref qH))) H := tP_sub hP [45, 41, 46, 47, 48, 49, 50, 51, 52, 53, 0, 1, 2, 3, 4, 5, 6, 7, 8, 9, 10, 11, 42, 43, 44, 12, 13, 14, 15, 16, 17, 18, 19, 20, 21, 22, 23, 24, 25, 26, 27, 28, 29, 30, 31, 32, 33, 34, 35, 36, 37, 38, 39, 40] rfl
    have hD : va_D Z ((tI g i0 ++ tI g i1) ++ (wH g qH h1 ++ kF g qX qM AX AC AD AP AW AY AK AM (eC d) (eC f) (eC ep) (eC n) (eC (pw mm d)) s1 σY σK ℓK ℓM QQ (.ref qH))) := tD_sub hD [45, 41, 46, 47, 48, 49, 50, 51, 52, 53, 0, 1, 2, 3, 4, 5, 6, 7, 8, 9, 10, 11, 42, 43, 44, 12, 13, 14, 15, 16, 17, 18, 19, 20, 21, 22, 23, 24, 25, 26, 27, 28, 29, 30, 31, 32, 33, 34, 35, 36, 37, 38, 39, 40] (by decide) rfl
    obtain rfl := hw
    have hP : va_P g.1 vwCl ((kT g (some (qH, h1)) i0 i1) ++ (kF g qX qM AX AC AD AP AW AY AK AM (eC d) (eC f) (eC ep) (eC n) (eC (pw mm d)) s1 σY σK ℓK ℓM QQ (kV (some (qH, h1))))) H := P_perm hP (pm_h (wH g qH h1) (tI g i0 ++ tI g i1) _).symm
    have hD : va_D Z ((kT g (some (qH, h1)) i0 i1) ++ (kF g qX qM AX AC AD AP AW AY AK AM (eC d) (eC f) (eC ep) (eC n) (eC (pw mm d)) s1 σY σK ℓK ℓM QQ (kV (some (qH, h1))))) := D_perm hD (pm_h (wH g qH h1) (tI g i0 ++ tI g i1) _).symm
    refine lv_pop hx hb dL_law_552 rfl ?_
    refine lv_aload_n hx hb dL_law_553 rfl (lv_at hl 1 rfl) ?_
    refine lv_aload_n hx hb dL_law_554 rfl (lv_at hl 3 rfl) ?_
    refine lv_iload_n hx hb dL_law_555 rfl (lv_at hl 0 rfl) ?_
    refine lv_iconst (v := 1) hx hb dL_law_556 (by decide) ?_
    refine lv_iadd hx hb dL_law_557 ?_
    refine gtop (y := nI (i + 1)) (nI_adk i 1) ?_
    refine va_sld hx hb hX hbl hbA hS (vp_in_nI (n := i + 1) (by omega) (by omega)) dL_law_558 ?_
    refine lv_aload_n hx hb dL_law_559 rfl (lv_at hl 3 rfl) ?_
    refine lv_iload_n hx hb dL_law_560 rfl (lv_at hl 0 rfl) ?_
    refine lv_iconst (v := 2) hx hb dL_law_561 (by decide) ?_
    refine lv_iadd hx hb dL_law_562 ?_
    refine gtop (y := nI (i + 2)) (nI_adk i 2) ?_
    refine va_sld hx hb hX hbl hbA hS (vp_in_nI (n := i + 2) (by omega) (by omega)) dL_law_563 ?_
    refine gcV_iT (T := kT g (some (qH, h1)) i0 i1) (ws := kF g qX qM AX AC AD AP AW AY AK AM (eC d) (eC f) (eC ep) (eC n) (eC (pw mm d)) s1 σY σK ℓK ℓM QQ (kV (some (qH, h1)))) (As := [.int (xs (nI (i + 1)).toNatClampNeg), .int (xs (nI (i + 2)).toNatClampNeg)]) (rest := []) (ci := 7) (q := (RX7, TX7, 34)) F hK hN hP hD hS hA (m_X7_round l g H.size qM AM (eC (pw mm d)) ℓM (xs (nI (i + 1)).toNatClampNeg) (xs (nI (i + 2)).toNatClampNeg) r2 (eC (pw n1 d)) m1) gL_law_X7_round kX7_round rfl rfl rfl rfl ⟨(Nat.le_of_ble_eq_true rfl), (Nat.le_of_ble_eq_true rfl)⟩ [32, 33, 34, 35, 36, 37, 38, 39, 40, 41, 42, 43, 44, 45, 46, 47, 48, 49, 50, 51, 52] [0, 1, 2, 3, 4, 5, 6, 7, 8, 9, 10, 11, 12, 13, 14, 15, 16, 17, 18, 19, 20, 21, 22, 23, 24, 25, 26, 27, 28, 29, 30, 31] rfl rfl rfl (by decide) rfl rfl rfl rfl rfl hl.1 (Nat.le_of_ble_eq_true rfl) dL_law_564 ⟨by have := hcR.1; omega, by have := hcR.2; omega⟩ (fun r_w u_w H locs hw hP hD hS => ?_)
    have hP : va_P g.1 vwCl ((kT g (some (qH, h1)) i0 i1) ++ (kF g qX qM AX AC AD AP AW AY AK AM (eC d) (eC f) (eC ep) (eC n) (eC (pw n1 d)) s1 σY σK ℓK ℓM QQ (kV (some (qH, h1))))) H := hP
    have hD : va_D Z ((kT g (some (qH, h1)) i0 i1) ++ (kF g qX qM AX AC AD AP AW AY AK AM (eC d) (eC f) (eC ep) (eC n) (eC (pw n1 d)) s1 σY σK ℓK ℓM QQ (kV (some (qH, h1))))) := hD
    obtain rfl := hw
    refine lv_pop hx hb dL_law_567 rfl ?_
    refine lv_goto (tgt := 949) hx hb dL_law_568 (by decide) ?_
    refine W.widen (k := cells + 8) (n := slots + 10240) (by omega) (by omega) ?_
    exact K d f ep n n1 s1 σY σK ℓK ℓM QQ (some (qH, h1)) i0 i1 (hO.fN k2) H locs ls hP hD hS hl
set_option maxHeartbeats 8000000 in
set_option maxRecDepth 100000 in
theorem ws_571 {p : Program} {l : Launch} {e : Env} {s : State} {m : MethodId} {below : List Frame} {meth : Method} {c : Code} {b L : Nat} {xs : Nat → Int32} {g : GT} {Z : Nat → Prop} {H : Heap} {locs : List Loc} {ls : Array Slot} {qX qM : Nat} {AX AC AD AP AW AY AK AM : Nat → Nat} {i cells slots : Nat} {d f ep n mm : Nat → Int → Int} {σW σY σK : qS} {ℓK ℓM : qL} {QQ : Nat → Option Nat} {hh : Option (Nat × qS)} {i0 i1 : Option (Nat × (Nat → Nat) × (Nat → Int → Int))}
    (hx : p.tables.exec = Jvm.exec) (hb : c.code = cL_law) (F : CallFix p m c cL_law 4 s #[Value.ref b] wsL_law RL) (hK : va_K g.1 vwCl (tyL g) s) (hN : NW s) (hA : ∀ q : Nat, s.heap.size ≤ q → Z q) (hbA : ¬ Z b) (hX : va_X b L xs s s.heap) (hbl : b < s.heap.size) (hi : i + 7 ≤ L) (hL : L ≤ 3584) (hcR : cells + 8 ≤ room_1.cells ∧ slots + 10240 ≤ room_1.slots)
    (K : lw_C p l e s m below meth c b g Z qX qM AX AC AD AP AW AY AK AM i (cells + 8) (slots + 10240) 949) (hO : kO d f ep mm QQ i0 i1) (hP : va_P g.1 vwCl (kT g hh i0 i1 ++ kF g qX qM AX AC AD AP AW AY AK AM (eC d) (eC f) (eC ep) (eC n) (eC (pw mm d)) σW σY σK ℓK ℓM QQ (kV hh)) H) (hD : va_D Z (kT g hh i0 i1 ++ kF g qX qM AX AC AD AP AW AY AK AM (eC d) (eC f) (eC ep) (eC n) (eC (pw mm d)) σW σY σK ℓK ℓM QQ (kV hh))) (hS : va_S Z s.heap H locs) (hl : lv_has ls 4 [(3, .int (nI i)), (2, .ref qM), (1, .ref qX), (0, .ref b)]) : W p l e room_1 s m #[Value.ref b] below meth c H locs cells slots (lw_Z below #[Value.ref b] s) (F0 m 571 ls []) := by
  obtain ⟨⟨r1, s1⟩, x1, -⟩ := e_keep (d := d) σW (xs (nI (i + 1)).toNatClampNeg) (xs (nI (i + 2)).toNatClampNeg)
  obtain ⟨r2, m1, -⟩ := v_keep (eC (pw mm d)) ℓM (xs (nI (i + 1)).toNatClampNeg) (xs (nI (i + 2)).toNatClampNeg)
  refine lv_aload_n hx hb dL_law_571 rfl (lv_at hl 2 rfl) ?_
  refine lv_aload_n hx hb dL_law_572 rfl (lv_at hl 3 rfl) ?_
  refine lv_iload_n hx hb dL_law_573 rfl (lv_at hl 0 rfl) ?_
  refine lv_iconst (v := 1) hx hb dL_law_574 (by decide) ?_
  refine lv_iadd hx hb dL_law_575 ?_
  refine gtop (y := nI (i + 1)) (nI_adk i 1) ?_
  refine va_sld hx hb hX hbl hbA hS (vp_in_nI (n := i + 1) (by omega) (by omega)) dL_law_576 ?_
  refine lv_aload_n hx hb dL_law_577 rfl (lv_at hl 3 rfl) ?_
  refine lv_iload_n hx hb dL_law_578 rfl (lv_at hl 0 rfl) ?_
  refine lv_iconst (v := 2) hx hb dL_law_579 (by decide) ?_
  refine lv_iadd hx hb dL_law_580 ?_
  refine gtop (y := nI (i + 2)) (nI_adk i 2) ?_
  refine va_sld hx hb hX hbl hbA hS (vp_in_nI (n := i + 2) (by omega) (by omega)) dL_law_581 ?_
  refine gcV_iT (T := kT g hh i0 i1) (ws := kF g qX qM AX AC AD AP AW AY AK AM (eC d) (eC f) (eC ep) (eC n) (eC (pw mm d)) σW σY σK ℓK ℓM QQ (kV hh)) (As := [.int (xs (nI (i + 1)).toNatClampNeg), .int (xs (nI (i + 2)).toNatClampNeg)]) (rest := []) (ci := 6) (q := (RX6, TX6, 8)) F hK hN hP hD hS hA (m_X6_keep l g H.size qX AX AW (kV hh) σW AC (eC d) (xs (nI (i + 1)).toNatClampNeg) (xs (nI (i + 2)).toNatClampNeg) r1 s1 x1) gL_law_X6_keep kX6_keep rfl rfl rfl rfl ⟨(Nat.le_of_ble_eq_true rfl), (Nat.le_of_ble_eq_true rfl)⟩ [0, 21, 22, 23, 1, 2, 3, 4, 5, 6, 7, 8] [9, 10, 11, 12, 13, 14, 15, 16, 17, 18, 19, 20, 24, 25, 26, 27, 28, 29, 30, 31, 32, 33, 34, 35, 36, 37, 38, 39, 40, 41, 42, 43, 44, 45, 46, 47, 48, 49, 50, 51, 52] rfl rfl rfl (by decide) rfl rfl rfl rfl rfl hl.1 (Nat.le_of_ble_eq_true rfl) dL_law_582 ⟨by have := hcR.1; omega, by have := hcR.2; omega⟩ (fun r_w u_w H locs hw hP hD hS => ?_)
  have hP : va_P g.1 vwCl ((kT g hh i0 i1) ++ (kF g qX qM AX AC AD AP AW AY AK AM (eC d) (eC f) (eC ep) (eC n) (eC (pw mm d)) s1 σY σK ℓK ℓM QQ (kV hh))) H := tP_sub hP [41, 45, 46, 47, 48, 49, 50, 51, 52, 0, 1, 2, 3, 4, 5, 6, 7, 8, 9, 10, 11, 42, 43, 44, 12, 13, 14, 15, 16, 17, 18, 19, 20, 21, 22, 23, 24, 25, 26, 27, 28, 29, 30, 31, 32, 33, 34, 35, 36, 37, 38, 39, 40] rfl
  have hD : va_D Z ((kT g hh i0 i1) ++ (kF g qX qM AX AC AD AP AW AY AK AM (eC d) (eC f) (eC ep) (eC n) (eC (pw mm d)) s1 σY σK ℓK ℓM QQ (kV hh))) := tD_sub hD [41, 45, 46, 47, 48, 49, 50, 51, 52, 0, 1, 2, 3, 4, 5, 6, 7, 8, 9, 10, 11, 42, 43, 44, 12, 13, 14, 15, 16, 17, 18, 19, 20, 21, 22, 23, 24, 25, 26, 27, 28, 29, 30, 31, 32, 33, 34, 35, 36, 37, 38, 39, 40] (by decide) rfl
  obtain rfl := hw
  refine lv_pop hx hb dL_law_585 rfl ?_
  refine lv_aload_n hx hb dL_law_586 rfl (lv_at hl 1 rfl) ?_
  refine lv_aload_n hx hb dL_law_587 rfl (lv_at hl 3 rfl) ?_
  refine lv_iload_n hx hb dL_law_588 rfl (lv_at hl 0 rfl) ?_
  refine lv_iconst (v := 1) hx hb dL_law_589 (by decide) ?_
  refine lv_iadd hx hb dL_law_590 ?_
  refine gtop (y := nI (i + 1)) (nI_adk i 1) ?_
  refine va_sld hx hb hX hbl hbA hS (vp_in_nI (n := i + 1) (by omega) (by omega)) dL_law_591 ?_
  refine lv_aload_n hx hb dL_law_592 rfl (lv_at hl 3 rfl) ?_
  refine lv_iload_n hx hb dL_law_593 rfl (lv_at hl 0 rfl) ?_
  refine lv_iconst (v := 2) hx hb dL_law_594 (by decide) ?_
  refine lv_iadd hx hb dL_law_595 ?_
  refine gtop (y := nI (i + 2)) (nI_adk i 2) ?_
  refine va_sld hx hb hX hbl hbA hS (vp_in_nI (n := i + 2) (by omega) (by omega)) dL_law_596 ?_
  refine gcV_iT (T := kT g hh i0 i1) (ws := kF g qX qM AX AC AD AP AW AY AK AM (eC d) (eC f) (eC ep) (eC n) (eC (pw mm d)) s1 σY σK ℓK ℓM QQ (kV hh)) (As := [.int (xs (nI (i + 1)).toNatClampNeg), .int (xs (nI (i + 2)).toNatClampNeg)]) (rest := []) (ci := 7) (q := (RX7, TX7, 34)) F hK hN hP hD hS hA (m_X7_keep l g H.size qM AM (eC (pw mm d)) ℓM (xs (nI (i + 1)).toNatClampNeg) (xs (nI (i + 2)).toNatClampNeg) r2 m1) gL_law_X7_keep kX7_keep rfl rfl rfl rfl ⟨(Nat.le_of_ble_eq_true rfl), (Nat.le_of_ble_eq_true rfl)⟩ [32, 33, 34, 35, 36, 37, 38, 39, 40, 41, 42, 43, 44, 45, 46, 47, 48, 49, 50, 51, 52] [0, 1, 2, 3, 4, 5, 6, 7, 8, 9, 10, 11, 12, 13, 14, 15, 16, 17, 18, 19, 20, 21, 22, 23, 24, 25, 26, 27, 28, 29, 30, 31] rfl rfl rfl (by decide) rfl rfl rfl rfl rfl hl.1 (Nat.le_of_ble_eq_true rfl) dL_law_597 ⟨by have := hcR.1; omega, by have := hcR.2; omega⟩ (fun r_w u_w H locs hw hP hD hS => ?_)
  have hP : va_P g.1 vwCl ((kT g hh i0 i1) ++ (kF g qX qM AX AC AD AP AW AY AK AM (eC d) (eC f) (eC ep) (eC n) (eC (pw mm d)) s1 σY σK ℓK ℓM QQ (kV hh))) H := hP
  have hD : va_D Z ((kT g hh i0 i1) ++ (kF g qX qM AX AC AD AP AW AY AK AM (eC d) (eC f) (eC ep) (eC n) (eC (pw mm d)) s1 σY σK ℓK ℓM QQ (kV hh))) := hD
  obtain rfl := hw
  refine lv_pop hx hb dL_law_600 rfl ?_
  refine lv_goto (tgt := 949) hx hb dL_law_601 (by decide) ?_
  refine W.widen (k := cells + 8) (n := slots + 10240) (by omega) (by omega) ?_
  exact K d f ep n mm s1 σY σK ℓK ℓM QQ hh i0 i1 hO H locs ls hP hD hS hl
set_option maxHeartbeats 8000000 in
set_option maxRecDepth 100000 in
theorem ws_604 {p : Program} {l : Launch} {e : Env} {s : State} {m : MethodId} {below : List Frame} {meth : Method} {c : Code} {b L : Nat} {xs : Nat → Int32} {g : GT} {Z : Nat → Prop} {H : Heap} {locs : List Loc} {ls : Array Slot} {qX qM : Nat} {AX AC AD AP AW AY AK AM : Nat → Nat} {i cells slots : Nat} {d f ep n mm : Nat → Int → Int} {σW σY σK : qS} {ℓK ℓM : qL} {QQ : Nat → Option Nat} {hh : Option (Nat × qS)} {i0 i1 : Option (Nat × (Nat → Nat) × (Nat → Int → Int))}
    (hx : p.tables.exec = Jvm.exec) (hb : c.code = cL_law) (F : CallFix p m c cL_law 4 s #[Value.ref b] wsL_law RL) (hK : va_K g.1 vwCl (tyL g) s) (hN : NW s) (hA : ∀ q : Nat, s.heap.size ≤ q → Z q) (hbA : ¬ Z b) (hX : va_X b L xs s s.heap) (hbl : b < s.heap.size) (hi : i + 7 ≤ L) (hL : L ≤ 3584) (hcR : cells + 8 ≤ room_1.cells ∧ slots + 10240 ≤ room_1.slots)
    (K : lw_C p l e s m below meth c b g Z qX qM AX AC AD AP AW AY AK AM i (cells + 8) (slots + 10240) 949) (hO : kO d f ep mm QQ i0 i1) (hP : va_P g.1 vwCl (kT g hh i0 i1 ++ kF g qX qM AX AC AD AP AW AY AK AM (eC d) (eC f) (eC ep) (eC n) (eC (pw mm d)) σW σY σK ℓK ℓM QQ (kV hh)) H) (hD : va_D Z (kT g hh i0 i1 ++ kF g qX qM AX AC AD AP AW AY AK AM (eC d) (eC f) (eC ep) (eC n) (eC (pw mm d)) σW σY σK ℓK ℓM QQ (kV hh))) (hS : va_S Z s.heap H locs) (hl : lv_has ls 4 [(3, .int (nI i)), (2, .ref qM), (1, .ref qX), (0, .ref b)]) : W p l e room_1 s m #[Value.ref b] below meth c H locs cells slots (lw_Z below #[Value.ref b] s) (F0 m 604 ls []) := by
  obtain ⟨r1, x1, -⟩ := e_faded (d := d) (xs (nI (i + 1)).toNatClampNeg) (xs (nI (i + 2)).toNatClampNeg)
  obtain ⟨r2, m1, -⟩ := v_faded mm hO.xd ℓM (xs (nI (i + 1)).toNatClampNeg) (xs (nI (i + 2)).toNatClampNeg)
  refine lv_aload_n hx hb dL_law_604 rfl (lv_at hl 2 rfl) ?_
  refine lv_aload_n hx hb dL_law_605 rfl (lv_at hl 3 rfl) ?_
  refine lv_iload_n hx hb dL_law_606 rfl (lv_at hl 0 rfl) ?_
  refine lv_iconst (v := 1) hx hb dL_law_607 (by decide) ?_
  refine lv_iadd hx hb dL_law_608 ?_
  refine gtop (y := nI (i + 1)) (nI_adk i 1) ?_
  refine va_sld hx hb hX hbl hbA hS (vp_in_nI (n := i + 1) (by omega) (by omega)) dL_law_609 ?_
  refine lv_aload_n hx hb dL_law_610 rfl (lv_at hl 3 rfl) ?_
  refine lv_iload_n hx hb dL_law_611 rfl (lv_at hl 0 rfl) ?_
  refine lv_iconst (v := 2) hx hb dL_law_612 (by decide) ?_
  refine lv_iadd hx hb dL_law_613 ?_
  refine gtop (y := nI (i + 2)) (nI_adk i 2) ?_
  refine va_sld hx hb hX hbl hbA hS (vp_in_nI (n := i + 2) (by omega) (by omega)) dL_law_614 ?_
  refine gcV_iT (T := kT g hh i0 i1) (ws := kF g qX qM AX AC AD AP AW AY AK AM (eC d) (eC f) (eC ep) (eC n) (eC (pw mm d)) σW σY σK ℓK ℓM QQ (kV hh)) (As := [.int (xs (nI (i + 1)).toNatClampNeg), .int (xs (nI (i + 2)).toNatClampNeg)]) (rest := []) (ci := 6) (q := (RX6, TX6, 8)) F hK hN hP hD hS hA (m_X6_faded l g H.size qX AX AC (eC d) (xs (nI (i + 1)).toNatClampNeg) (xs (nI (i + 2)).toNatClampNeg) r1 x1) gL_law_X6_faded kX6_faded rfl rfl rfl rfl ⟨(Nat.le_of_ble_eq_true rfl), (Nat.le_of_ble_eq_true rfl)⟩ [0, 1, 2, 3, 4, 5, 6, 7, 8] [9, 10, 11, 12, 13, 14, 15, 16, 17, 18, 19, 20, 21, 22, 23, 24, 25, 26, 27, 28, 29, 30, 31, 32, 33, 34, 35, 36, 37, 38, 39, 40, 41, 42, 43, 44, 45, 46, 47, 48, 49, 50, 51, 52] rfl rfl rfl (by decide) rfl rfl rfl rfl rfl hl.1 (Nat.le_of_ble_eq_true rfl) dL_law_615 ⟨by have := hcR.1; omega, by have := hcR.2; omega⟩ (fun r_w u_w H locs hw hP hD hS => ?_)
  have hP : va_P g.1 vwCl ((kT g hh i0 i1) ++ (kF g qX qM AX AC AD AP AW AY AK AM (eC d) (eC f) (eC ep) (eC n) (eC (pw mm d)) σW σY σK ℓK ℓM QQ (kV hh))) H := tP_sub hP [44, 45, 46, 47, 48, 49, 50, 51, 52, 0, 1, 2, 3, 4, 5, 6, 7, 8, 9, 10, 11, 12, 13, 14, 15, 16, 17, 18, 19, 20, 21, 22, 23, 24, 25, 26, 27, 28, 29, 30, 31, 32, 33, 34, 35, 36, 37, 38, 39, 40, 41, 42, 43] rfl
  have hD : va_D Z ((kT g hh i0 i1) ++ (kF g qX qM AX AC AD AP AW AY AK AM (eC d) (eC f) (eC ep) (eC n) (eC (pw mm d)) σW σY σK ℓK ℓM QQ (kV hh))) := tD_sub hD [44, 45, 46, 47, 48, 49, 50, 51, 52, 0, 1, 2, 3, 4, 5, 6, 7, 8, 9, 10, 11, 12, 13, 14, 15, 16, 17, 18, 19, 20, 21, 22, 23, 24, 25, 26, 27, 28, 29, 30, 31, 32, 33, 34, 35, 36, 37, 38, 39, 40, 41, 42, 43] (by decide) rfl
  obtain rfl := hw
  refine lv_pop hx hb dL_law_618 rfl ?_
  refine lv_aload_n hx hb dL_law_619 rfl (lv_at hl 1 rfl) ?_
  refine lv_aload_n hx hb dL_law_620 rfl (lv_at hl 3 rfl) ?_
  refine lv_iload_n hx hb dL_law_621 rfl (lv_at hl 0 rfl) ?_
  refine lv_iconst (v := 1) hx hb dL_law_622 (by decide) ?_
  refine lv_iadd hx hb dL_law_623 ?_
  refine gtop (y := nI (i + 1)) (nI_adk i 1) ?_
  refine va_sld hx hb hX hbl hbA hS (vp_in_nI (n := i + 1) (by omega) (by omega)) dL_law_624 ?_
  refine lv_aload_n hx hb dL_law_625 rfl (lv_at hl 3 rfl) ?_
  refine lv_iload_n hx hb dL_law_626 rfl (lv_at hl 0 rfl) ?_
  refine lv_iconst (v := 2) hx hb dL_law_627 (by decide) ?_
  refine lv_iadd hx hb dL_law_628 ?_
  refine gtop (y := nI (i + 2)) (nI_adk i 2) ?_
  refine va_sld hx hb hX hbl hbA hS (vp_in_nI (n := i + 2) (by omega) (by omega)) dL_law_629 ?_
  refine gcV_iT (T := kT g hh i0 i1) (ws := kF g qX qM AX AC AD AP AW AY AK AM (eC d) (eC f) (eC ep) (eC n) (eC (pw mm d)) σW σY σK ℓK ℓM QQ (kV hh)) (As := [.int (xs (nI (i + 1)).toNatClampNeg), .int (xs (nI (i + 2)).toNatClampNeg)]) (rest := []) (ci := 7) (q := (RX7, TX7, 34)) F hK hN hP hD hS hA (m_X7_faded l g H.size qM AM (eC (pw mm d)) ℓM (xs (nI (i + 1)).toNatClampNeg) (xs (nI (i + 2)).toNatClampNeg) r2 m1) gL_law_X7_faded kX7_faded rfl rfl rfl rfl ⟨(Nat.le_of_ble_eq_true rfl), (Nat.le_of_ble_eq_true rfl)⟩ [32, 33, 34, 35, 36, 37, 38, 39, 40, 41, 42, 43, 44, 45, 46, 47, 48, 49, 50, 51, 52] [0, 1, 2, 3, 4, 5, 6, 7, 8, 9, 10, 11, 12, 13, 14, 15, 16, 17, 18, 19, 20, 21, 22, 23, 24, 25, 26, 27, 28, 29, 30, 31] rfl rfl rfl (by decide) rfl rfl rfl rfl rfl hl.1 (Nat.le_of_ble_eq_true rfl) dL_law_630 ⟨by have := hcR.1; omega, by have := hcR.2; omega⟩ (fun r_w u_w H locs hw hP hD hS => ?_)
  have hP : va_P g.1 vwCl ((kT g hh i0 i1) ++ (kF g qX qM AX AC AD AP AW AY AK AM (eC d) (eC f) (eC ep) (eC n) (eC (pw mm d)) σW σY σK ℓK ℓM QQ (kV hh))) H := hP
  have hD : va_D Z ((kT g hh i0 i1) ++ (kF g qX qM AX AC AD AP AW AY AK AM (eC d) (eC f) (eC ep) (eC n) (eC (pw mm d)) σW σY σK ℓK ℓM QQ (kV hh))) := hD
  obtain rfl := hw
  refine lv_pop hx hb dL_law_633 rfl ?_
  refine lv_goto (tgt := 949) hx hb dL_law_634 (by decide) ?_
  refine W.widen (k := cells + 8) (n := slots + 10240) (by omega) (by omega) ?_
  exact K d f ep n mm σW σY σK ℓK ℓM QQ hh i0 i1 hO H locs ls hP hD hS hl
set_option maxHeartbeats 8000000 in
set_option maxRecDepth 100000 in
theorem ws_637 {p : Program} {l : Launch} {e : Env} {s : State} {m : MethodId} {below : List Frame} {meth : Method} {c : Code} {b L : Nat} {xs : Nat → Int32} {g : GT} {Z : Nat → Prop} {H : Heap} {locs : List Loc} {ls : Array Slot} {qX qM : Nat} {AX AC AD AP AW AY AK AM : Nat → Nat} {i cells slots : Nat} {d f ep n mm : Nat → Int → Int} {σW σY σK : qS} {ℓK ℓM : qL} {QQ : Nat → Option Nat} {hh : Option (Nat × qS)} {i0 i1 : Option (Nat × (Nat → Nat) × (Nat → Int → Int))}
    (hx : p.tables.exec = Jvm.exec) (hb : c.code = cL_law) (F : CallFix p m c cL_law 4 s #[Value.ref b] wsL_law RL) (hK : va_K g.1 vwCl (tyL g) s) (hN : NW s) (hA : ∀ q : Nat, s.heap.size ≤ q → Z q) (hbA : ¬ Z b) (hX : va_X b L xs s s.heap) (hbl : b < s.heap.size) (hi : i + 7 ≤ L) (hL : L ≤ 3584) (hcR : cells + 8 ≤ room_1.cells ∧ slots + 10240 ≤ room_1.slots)
    (K : lw_C p l e s m below meth c b g Z qX qM AX AC AD AP AW AY AK AM i (cells + 8) (slots + 10240) 949) (hO : kO d f ep mm QQ i0 i1) (hP : va_P g.1 vwCl (kT g hh i0 i1 ++ kF g qX qM AX AC AD AP AW AY AK AM (eC d) (eC f) (eC ep) (eC n) (eC (pw mm d)) σW σY σK ℓK ℓM QQ (kV hh)) H) (hD : va_D Z (kT g hh i0 i1 ++ kF g qX qM AX AC AD AP AW AY AK AM (eC d) (eC f) (eC ep) (eC n) (eC (pw mm d)) σW σY σK ℓK ℓM QQ (kV hh))) (hS : va_S Z s.heap H locs) (hl : lv_has ls 4 [(3, .int (nI i)), (2, .ref qM), (1, .ref qX), (0, .ref b)]) : W p l e room_1 s m #[Value.ref b] below meth c H locs cells slots (lw_Z below #[Value.ref b] s) (F0 m 637 ls []) := by
  obtain ⟨r, d1, x1, m1, k1, k2⟩ := c_seen mm d ℓM hO.xd (xs (nI (i + 1)).toNatClampNeg) (xs (nI (i + 2)).toNatClampNeg)
  refine lv_aload_n hx hb dL_law_637 rfl (lv_at hl 2 rfl) ?_
  refine lv_aload_n hx hb dL_law_638 rfl (lv_at hl 3 rfl) ?_
  refine lv_iload_n hx hb dL_law_639 rfl (lv_at hl 0 rfl) ?_
  refine lv_iconst (v := 1) hx hb dL_law_640 (by decide) ?_
  refine lv_iadd hx hb dL_law_641 ?_
  refine gtop (y := nI (i + 1)) (nI_adk i 1) ?_
  refine va_sld hx hb hX hbl hbA hS (vp_in_nI (n := i + 1) (by omega) (by omega)) dL_law_642 ?_
  refine lv_aload_n hx hb dL_law_643 rfl (lv_at hl 3 rfl) ?_
  refine lv_iload_n hx hb dL_law_644 rfl (lv_at hl 0 rfl) ?_
  refine lv_iconst (v := 2) hx hb dL_law_645 (by decide) ?_
  refine lv_iadd hx hb dL_law_646 ?_
  refine gtop (y := nI (i + 2)) (nI_adk i 2) ?_
  refine va_sld hx hb hX hbl hbA hS (vp_in_nI (n := i + 2) (by omega) (by omega)) dL_law_647 ?_
  refine gcV_iT (T := kT g hh i0 i1) (ws := kF g qX qM AX AC AD AP AW AY AK AM (eC d) (eC f) (eC ep) (eC n) (eC (pw mm d)) σW σY σK ℓK ℓM QQ (kV hh)) (As := [.int (xs (nI (i + 1)).toNatClampNeg), .int (xs (nI (i + 2)).toNatClampNeg)]) (rest := []) (ci := 6) (q := (RX6, TX6, 8)) F hK hN hP hD hS hA (m_X6_seen l g H.size qX AX AC (eC d) (xs (nI (i + 1)).toNatClampNeg) (xs (nI (i + 2)).toNatClampNeg) r (eC d1) x1) gL_law_X6_seen kX6_seen rfl rfl rfl rfl ⟨(Nat.le_of_ble_eq_true rfl), (Nat.le_of_ble_eq_true rfl)⟩ [0, 1, 2, 3, 4, 5, 6, 7, 8] [9, 10, 11, 12, 13, 14, 15, 16, 17, 18, 19, 20, 21, 22, 23, 24, 25, 26, 27, 28, 29, 30, 31, 32, 33, 34, 35, 36, 37, 38, 39, 40, 41, 42, 43, 44, 45, 46, 47, 48, 49, 50, 51, 52] rfl rfl rfl (by decide) rfl rfl rfl rfl rfl hl.1 (Nat.le_of_ble_eq_true rfl) dL_law_648 ⟨by have := hcR.1; omega, by have := hcR.2; omega⟩ (fun r_w u_w H locs hw hP hD hS => ?_)
  have hP : va_P g.1 vwCl ((kT g hh i0 i1) ++ (kF g qX qM AX AC AD AP AW AY AK AM (eC d1) (eC f) (eC ep) (eC n) (eC (pw mm d)) σW σY σK ℓK ℓM QQ (kV hh))) H := tP_sub hP [44, 45, 46, 47, 48, 49, 50, 51, 52, 0, 1, 2, 3, 4, 5, 6, 7, 8, 9, 10, 11, 12, 13, 14, 15, 16, 17, 18, 19, 20, 21, 22, 23, 24, 25, 26, 27, 28, 29, 30, 31, 32, 33, 34, 35, 36, 37, 38, 39, 40, 41, 42, 43] rfl
  have hD : va_D Z ((kT g hh i0 i1) ++ (kF g qX qM AX AC AD AP AW AY AK AM (eC d1) (eC f) (eC ep) (eC n) (eC (pw mm d)) σW σY σK ℓK ℓM QQ (kV hh))) := tD_sub hD [44, 45, 46, 47, 48, 49, 50, 51, 52, 0, 1, 2, 3, 4, 5, 6, 7, 8, 9, 10, 11, 12, 13, 14, 15, 16, 17, 18, 19, 20, 21, 22, 23, 24, 25, 26, 27, 28, 29, 30, 31, 32, 33, 34, 35, 36, 37, 38, 39, 40, 41, 42, 43] (by decide) rfl
  obtain rfl := hw
  refine lv_pop hx hb dL_law_651 rfl ?_
  refine lv_aload_n hx hb dL_law_652 rfl (lv_at hl 1 rfl) ?_
  refine lv_aload_n hx hb dL_law_653 rfl (lv_at hl 3 rfl) ?_
  refine lv_iload_n hx hb dL_law_654 rfl (lv_at hl 0 rfl) ?_
  refine lv_iconst (v := 1) hx hb dL_law_655 (by decide) ?_
  refine lv_iadd hx hb dL_law_656 ?_
  refine gtop (y := nI (i + 1)) (nI_adk i 1) ?_
  refine va_sld hx hb hX hbl hbA hS (vp_in_nI (n := i + 1) (by omega) (by omega)) dL_law_657 ?_
  refine lv_aload_n hx hb dL_law_658 rfl (lv_at hl 3 rfl) ?_
  refine lv_iload_n hx hb dL_law_659 rfl (lv_at hl 0 rfl) ?_
  refine lv_iconst (v := 2) hx hb dL_law_660 (by decide) ?_
  refine lv_iadd hx hb dL_law_661 ?_
  refine gtop (y := nI (i + 2)) (nI_adk i 2) ?_
  refine va_sld hx hb hX hbl hbA hS (vp_in_nI (n := i + 2) (by omega) (by omega)) dL_law_662 ?_
  refine gcV_iT (T := kT g hh i0 i1) (ws := kF g qX qM AX AC AD AP AW AY AK AM (eC d1) (eC f) (eC ep) (eC n) (eC (pw mm d)) σW σY σK ℓK ℓM QQ (kV hh)) (As := [.int (xs (nI (i + 1)).toNatClampNeg), .int (xs (nI (i + 2)).toNatClampNeg)]) (rest := []) (ci := 7) (q := (RX7, TX7, 34)) F hK hN hP hD hS hA (m_X7_seen l g H.size qM AM (eC (pw mm d)) ℓM (xs (nI (i + 1)).toNatClampNeg) (xs (nI (i + 2)).toNatClampNeg) r (eC (pw mm d1)) m1) gL_law_X7_seen kX7_seen rfl rfl rfl rfl ⟨(Nat.le_of_ble_eq_true rfl), (Nat.le_of_ble_eq_true rfl)⟩ [32, 33, 34, 35, 36, 37, 38, 39, 40, 41, 42, 43, 44, 45, 46, 47, 48, 49, 50, 51, 52] [0, 1, 2, 3, 4, 5, 6, 7, 8, 9, 10, 11, 12, 13, 14, 15, 16, 17, 18, 19, 20, 21, 22, 23, 24, 25, 26, 27, 28, 29, 30, 31] rfl rfl rfl (by decide) rfl rfl rfl rfl rfl hl.1 (Nat.le_of_ble_eq_true rfl) dL_law_663 ⟨by have := hcR.1; omega, by have := hcR.2; omega⟩ (fun r_w u_w H locs hw hP hD hS => ?_)
  have hP : va_P g.1 vwCl ((kT g hh i0 i1) ++ (kF g qX qM AX AC AD AP AW AY AK AM (eC d1) (eC f) (eC ep) (eC n) (eC (pw mm d1)) σW σY σK ℓK ℓM QQ (kV hh))) H := hP
  have hD : va_D Z ((kT g hh i0 i1) ++ (kF g qX qM AX AC AD AP AW AY AK AM (eC d1) (eC f) (eC ep) (eC n) (eC (pw mm d1)) σW σY σK ℓK ℓM QQ (kV hh))) := hD
  obtain rfl := hw
  refine lv_pop hx hb dL_law_666 rfl ?_
  refine lv_goto (tgt := 949) hx hb dL_law_667 (by decide) ?_
  refine W.widen (k := cells + 8) (n := slots + 10240) (by omega) (by omega) ?_
  exact K d1 f ep n mm σW σY σK ℓK ℓM QQ hh i0 i1 (hO.cl k1 k2) H locs ls hP hD hS hl
