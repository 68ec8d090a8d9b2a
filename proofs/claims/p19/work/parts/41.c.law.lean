set_option maxHeartbeats 8000000 in
set_option maxRecDepth 100000 in
theorem ws_670 {p : Program} {l : Launch} {e : Env} {s : State} {m : MethodId} {below : List Frame} {meth : Method} {c : Code} {b L : Nat} {xs : Nat → Int32} {g : GT} {Z : Nat → Prop} {H : Heap} {locs : List Loc} {ls : Array Slot} {qX qM : Nat} {AX AC AD AP AW AY AK AM : Nat → Nat} {i cells slots : Nat} {d f ep n mm : Nat → Int → Int} {σW σY σK : qS} {ℓK ℓM : qL} {QQ : Nat → Option Nat} {hh : Option (Nat × qS)} {i0 i1 : Option (Nat × (Nat → Nat) × (Nat → Int → Int))}
    (hx : p.tables.exec = Jvm.exec) (hb : c.code = cL_law) (F : CallFix p m c cL_law 4 s #[Value.ref b] wsL_law RL) (hK : va_K g.1 vwCl (tyL g) s) (hN : NW s) (hA : ∀ q : Nat, s.heap.size ≤ q → Z q) (hbA : ¬ Z b) (hX : va_X b L xs s s.heap) (hbl : b < s.heap.size) (hi : i + 7 ≤ L) (hL : L ≤ 3584) (hcR : cells + 8 ≤ room_1.cells ∧ slots + 10240 ≤ room_1.slots)
    (K : lw_C p l e s m below meth c b g Z qX qM AX AC AD AP AW AY AK AM i (cells + 8) (slots + 10240) 949) (hO : kO d f ep mm QQ i0 i1) (hP : va_P g.1 vwCl (kT g hh i0 i1 ++ kF g qX qM AX AC AD AP AW AY AK AM (eC d) (eC f) (eC ep) (eC n) (eC (pw mm d)) σW σY σK ℓK ℓM QQ (kV hh)) H) (hD : va_D Z (kT g hh i0 i1 ++ kF g qX qM AX AC AD AP AW AY AK AM (eC d) (eC f) (eC ep) (eC n) (eC (pw mm d)) σW σY σK ℓK ℓM QQ (kV hh))) (hS : va_S Z s.heap H locs) (hl : lv_has ls 4 [(3, .int (nI i)), (2, .ref qM), (1, .ref qX), (0, .ref b)]) : W p l e room_1 s m #[Value.ref b] below meth c H locs cells slots (lw_Z below #[Value.ref b] s) (F0 m 670 ls []) := by
  obtain ⟨r, d1, x1, m1, k1, k2⟩ := c_forget mm d ℓM hO.xd 
  refine lv_aload_n hx hb dL_law_670 rfl (lv_at hl 2 rfl) ?_
  refine gcV_iT (T := kT g hh i0 i1) (ws := kF g qX qM AX AC AD AP AW AY AK AM (eC d) (eC f) (eC ep) (eC n) (eC (pw mm d)) σW σY σK ℓK ℓM QQ (kV hh)) (As := []) (rest := []) (ci := 6) (q := (RX6, TX6, 8)) F hK hN hP hD hS hA (m_X6_forget l g H.size qX AX AC (eC d) r (eC d1) x1) gL_law_X6_forget kX6_forget rfl rfl rfl rfl ⟨(Nat.le_of_ble_eq_true rfl), (Nat.le_of_ble_eq_true rfl)⟩ [0, 1, 2, 3, 4, 5, 6, 7, 8] [9, 10, 11, 12, 13, 14, 15, 16, 17, 18, 19, 20, 21, 22, 23, 24, 25, 26, 27, 28, 29, 30, 31, 32, 33, 34, 35, 36, 37, 38, 39, 40, 41, 42, 43, 44, 45, 46, 47, 48, 49, 50, 51, 52] rfl rfl rfl (by decide) rfl rfl rfl rfl rfl hl.1 (Nat.le_of_ble_eq_true rfl) dL_law_671 ⟨by have := hcR.1; omega, by have := hcR.2; omega⟩ (fun r_w u_w H locs hw hP hD hS => ?_)
  have hP : va_P g.1 vwCl ((kT g hh i0 i1) ++ (kF g qX qM AX AC AD AP AW AY AK AM (eC d1) (eC f) (eC ep) (eC n) (eC (pw mm d)) σW σY σK ℓK ℓM QQ (kV hh))) H := tP_sub hP [44, 45, 46, 47, 48, 49, 50, 51, 52, 0, 1, 2, 3, 4, 5, 6, 7, 8, 9, 10, 11, 12, 13, 14, 15, 16, 17, 18, 19, 20, 21, 22, 23, 24, 25, 26, 27, 28, 29, 30, 31, 32, 33, 34, 35, 36, 37, 38, 39, 40, 41, 42, 43] rfl
  have hD : va_D Z ((kT g hh i0 i1) ++ (kF g qX qM AX AC AD AP AW AY AK AM (eC d1) (eC f) (eC ep) (eC n) (eC (pw mm d)) σW σY σK ℓK ℓM QQ (kV hh))) := tD_sub hD [44, 45, 46, 47, 48, 49, 50, 51, 52, 0, 1, 2, 3, 4, 5, 6, 7, 8, 9, 10, 11, 12, 13, 14, 15, 16, 17, 18, 19, 20, 21, 22, 23, 24, 25, 26, 27, 28, 29, 30, 31, 32, 33, 34, 35, 36, 37, 38, 39, 40, 41, 42, 43] (by decide) rfl
  obtain rfl := hw
  refine lv_pop hx hb dL_law_674 rfl ?_
  refine lv_aload_n hx hb dL_law_675 rfl (lv_at hl 1 rfl) ?_
  refine gcV_iT (T := kT g hh i0 i1) (ws := kF g qX qM AX AC AD AP AW AY AK AM (eC d1) (eC f) (eC ep) (eC n) (eC (pw mm d)) σW σY σK ℓK ℓM QQ (kV hh)) (As := []) (rest := []) (ci := 7) (q := (RX7, TX7, 34)) F hK hN hP hD hS hA (m_X7_forget l g H.size qM AM (eC (pw mm d)) ℓM r (eC (pw mm d1)) m1) gL_law_X7_forget kX7_forget rfl rfl rfl rfl ⟨(Nat.le_of_ble_eq_true rfl), (Nat.le_of_ble_eq_true rfl)⟩ [32, 33, 34, 35, 36, 37, 38, 39, 40, 41, 42, 43, 44, 45, 46, 47, 48, 49, 50, 51, 52] [0, 1, 2, 3, 4, 5, 6, 7, 8, 9, 10, 11, 12, 13, 14, 15, 16, 17, 18, 19, 20, 21, 22, 23, 24, 25, 26, 27, 28, 29, 30, 31] rfl rfl rfl (by decide) rfl rfl rfl rfl rfl hl.1 (Nat.le_of_ble_eq_true rfl) dL_law_676 ⟨by have := hcR.1; omega, by have := hcR.2; omega⟩ (fun r_w u_w H locs hw hP hD hS => ?_)
  have hP : va_P g.1 vwCl ((kT g hh i0 i1) ++ (kF g qX qM AX AC AD AP AW AY AK AM (eC d1) (eC f) (eC ep) (eC n) (eC (pw mm d1)) σW σY σK ℓK ℓM QQ (kV hh))) H := hP
  have hD : va_D Z ((kT g hh i0 i1) ++ (kF g qX qM AX AC AD AP AW AY AK AM (eC d1) (eC f) (eC ep) (eC n) (eC (pw mm d1)) σW σY σK ℓK ℓM QQ (kV hh))) := hD
  obtain rfl := hw
  refine lv_pop hx hb dL_law_679 rfl ?_
  refine lv_goto (tgt := 949) hx hb dL_law_680 (by decide) ?_
  refine W.widen (k := cells + 8) (n := slots + 10240) (by omega) (by omega) ?_
  exact K d1 f ep n mm σW σY σK ℓK ℓM QQ hh i0 i1 (hO.cl k1 k2) H locs ls hP hD hS hl
set_option maxHeartbeats 8000000 in
set_option maxRecDepth 100000 in
theorem ws_683 {p : Program} {l : Launch} {e : Env} {s : State} {m : MethodId} {below : List Frame} {meth : Method} {c : Code} {b L : Nat} {xs : Nat → Int32} {g : GT} {Z : Nat → Prop} {H : Heap} {locs : List Loc} {ls : Array Slot} {qX qM : Nat} {AX AC AD AP AW AY AK AM : Nat → Nat} {i cells slots : Nat} {d f ep n mm : Nat → Int → Int} {σW σY σK : qS} {ℓK ℓM : qL} {QQ : Nat → Option Nat} {hh : Option (Nat × qS)} {i0 i1 : Option (Nat × (Nat → Nat) × (Nat → Int → Int))}
    (hx : p.tables.exec = Jvm.exec) (hb : c.code = cL_law) (F : CallFix p m c cL_law 4 s #[Value.ref b] wsL_law RL) (hK : va_K g.1 vwCl (tyL g) s) (hN : NW s) (hA : ∀ q : Nat, s.heap.size ≤ q → Z q) (hbA : ¬ Z b) (hX : va_X b L xs s s.heap) (hbl : b < s.heap.size) (hi : i + 7 ≤ L) (hL : L ≤ 3584) (hcR : cells + 8 ≤ room_1.cells ∧ slots + 10240 ≤ room_1.slots)
    (K : lw_C p l e s m below meth c b g Z qX qM AX AC AD AP AW AY AK AM i (cells + 8) (slots + 10240) 949) (hO : kO d f ep mm QQ i0 i1) (hP : va_P g.1 vwCl (kT g hh i0 i1 ++ kF g qX qM AX AC AD AP AW AY AK AM (eC d) (eC f) (eC ep) (eC n) (eC (pw mm d)) σW σY σK ℓK ℓM QQ (kV hh)) H) (hD : va_D Z (kT g hh i0 i1 ++ kF g qX qM AX AC AD AP AW AY AK AM (eC d) (eC f) (eC ep) (eC n) (eC (pw mm d)) σW σY σK ℓK ℓM QQ (kV hh))) (hS : va_S Z s.heap H locs) (hl : lv_has ls 4 [(3, .int (nI i)), (2, .ref qM), (1, .ref qX), (0, .ref b)]) : W p l e room_1 s m #[Value.ref b] below meth c H locs cells slots (lw_Z below #[Value.ref b] s) (F0 m 683 ls []) := by
  obtain ⟨⟨r1, s1⟩, x1, -⟩ := e_fits σY hO.xd (xs (nI (i + 1)).toNatClampNeg)
  obtain ⟨r2, m1, -⟩ := v_fits mm hO.xd ℓM (xs (nI (i + 1)).toNatClampNeg)
  refine lv_aload_n hx hb dL_law_683 rfl (lv_at hl 2 rfl) ?_
  refine lv_aload_n hx hb dL_law_684 rfl (lv_at hl 3 rfl) ?_
  refine lv_iload_n hx hb dL_law_685 rfl (lv_at hl 0 rfl) ?_
  refine lv_iconst (v := 1) hx hb dL_law_686 (by decide) ?_
  refine lv_iadd hx hb dL_law_687 ?_
  refine gtop (y := nI (i + 1)) (nI_adk i 1) ?_
  refine va_sld hx hb hX hbl hbA hS (vp_in_nI (n := i + 1) (by omega) (by omega)) dL_law_688 ?_
  refine gcV_iT (T := kT g hh i0 i1) (ws := kF g qX qM AX AC AD AP AW AY AK AM (eC d) (eC f) (eC ep) (eC n) (eC (pw mm d)) σW σY σK ℓK ℓM QQ (kV hh)) (As := [.int (xs (nI (i + 1)).toNatClampNeg)]) (rest := []) (ci := 6) (q := (RX6, TX6, 8)) F hK hN hP hD hS hA (m_X6_fits l g H.size qX AX AY σY AC (eC d) (xs (nI (i + 1)).toNatClampNeg) r1 s1 x1) gL_law_X6_fits kX6_fits rfl rfl rfl rfl ⟨(Nat.le_of_ble_eq_true rfl), (Nat.le_of_ble_eq_true rfl)⟩ [0, 24, 25, 26, 27, 1, 2, 3, 4, 5, 6, 7, 8] [9, 10, 11, 12, 13, 14, 15, 16, 17, 18, 19, 20, 21, 22, 23, 28, 29, 30, 31, 32, 33, 34, 35, 36, 37, 38, 39, 40, 41, 42, 43, 44, 45, 46, 47, 48, 49, 50, 51, 52] rfl rfl rfl (by decide) rfl rfl rfl rfl rfl hl.1 (Nat.le_of_ble_eq_true rfl) dL_law_689 ⟨by have := hcR.1; omega, by have := hcR.2; omega⟩ (fun r_w u_w H locs hw hP hD hS => ?_)
  have hP : va_P g.1 vwCl ((kT g hh i0 i1) ++ (kF g qX qM AX AC AD AP AW AY AK AM (eC d) (eC f) (eC ep) (eC n) (eC (pw mm d)) σW s1 σK ℓK ℓM QQ (kV hh))) H := tP_sub hP [40, 45, 46, 47, 48, 49, 50, 51, 52, 0, 1, 2, 3, 4, 5, 6, 7, 8, 9, 10, 11, 12, 13, 14, 41, 42, 43, 44, 15, 16, 17, 18, 19, 20, 21, 22, 23, 24, 25, 26, 27, 28, 29, 30, 31, 32, 33, 34, 35, 36, 37, 38, 39] rfl
  have hD : va_D Z ((kT g hh i0 i1) ++ (kF g qX qM AX AC AD AP AW AY AK AM (eC d) (eC f) (eC ep) (eC n) (eC (pw mm d)) σW s1 σK ℓK ℓM QQ (kV hh))) := tD_sub hD [40, 45, 46, 47, 48, 49, 50, 51, 52, 0, 1, 2, 3, 4, 5, 6, 7, 8, 9, 10, 11, 12, 13, 14, 41, 42, 43, 44, 15, 16, 17, 18, 19, 20, 21, 22, 23, 24, 25, 26, 27, 28, 29, 30, 31, 32, 33, 34, 35, 36, 37, 38, 39] (by decide) rfl
  obtain rfl := hw
  refine lv_pop hx hb dL_law_692 rfl ?_
  refine lv_aload_n hx hb dL_law_693 rfl (lv_at hl 1 rfl) ?_
  refine lv_aload_n hx hb dL_law_694 rfl (lv_at hl 3 rfl) ?_
  refine lv_iload_n hx hb dL_law_695 rfl (lv_at hl 0 rfl) ?_
  refine lv_iconst (v := 1) hx hb dL_law_696 (by decide) ?_
  refine lv_iadd hx hb dL_law_697 ?_
  refine gtop (y := nI (i + 1)) (nI_adk i 1) ?_
  refine va_sld hx hb hX hbl hbA hS (vp_in_nI (n := i + 1) (by omega) (by omega)) dL_law_698 ?_
  refine gcV_iT (T := kT g hh i0 i1) (ws := kF g qX qM AX AC AD AP AW AY AK AM (eC d) (eC f) (eC ep) (eC n) (eC (pw mm d)) σW s1 σK ℓK ℓM QQ (kV hh)) (As := [.int (xs (nI (i + 1)).toNatClampNeg)]) (rest := []) (ci := 7) (q := (RX7, TX7, 34)) F hK hN hP hD hS hA (m_X7_fits l g H.size qM AM (eC (pw mm d)) ℓM (xs (nI (i + 1)).toNatClampNeg) r2 m1) gL_law_X7_fits kX7_fits rfl rfl rfl rfl ⟨(Nat.le_of_ble_eq_true rfl), (Nat.le_of_ble_eq_true rfl)⟩ [32, 33, 34, 35, 36, 37, 38, 39, 40, 41, 42, 43, 44, 45, 46, 47, 48, 49, 50, 51, 52] [0, 1, 2, 3, 4, 5, 6, 7, 8, 9, 10, 11, 12, 13, 14, 15, 16, 17, 18, 19, 20, 21, 22, 23, 24, 25, 26, 27, 28, 29, 30, 31] rfl rfl rfl (by decide) rfl rfl rfl rfl rfl hl.1 (Nat.le_of_ble_eq_true rfl) dL_law_699 ⟨by have := hcR.1; omega, by have := hcR.2; omega⟩ (fun r_w u_w H locs hw hP hD hS => ?_)
  have hP : va_P g.1 vwCl ((kT g hh i0 i1) ++ (kF g qX qM AX AC AD AP AW AY AK AM (eC d) (eC f) (eC ep) (eC n) (eC (pw mm d)) σW s1 σK ℓK ℓM QQ (kV hh))) H := hP
  have hD : va_D Z ((kT g hh i0 i1) ++ (kF g qX qM AX AC AD AP AW AY AK AM (eC d) (eC f) (eC ep) (eC n) (eC (pw mm d)) σW s1 σK ℓK ℓM QQ (kV hh))) := hD
  obtain rfl := hw
  refine lv_pop hx hb dL_law_702 rfl ?_
  refine lv_goto (tgt := 949) hx hb dL_law_703 (by decide) ?_
  refine W.widen (k := cells + 8) (n := slots + 10240) (by omega) (by omega) ?_
  exact K d f ep n mm σW s1 σK ℓK ℓM QQ hh i0 i1 hO H locs ls hP hD hS hl
set_option maxHeartbeats 8000000 in
set_option maxRecDepth 100000 in
theorem ws_706 {p : Program} {l : Launch} {e : Env} {s : State} {m : MethodId} {below : List Frame} {meth : Method} {c : Code} {b L : Nat} {xs : Nat → Int32} {g : GT} {Z : Nat → Prop} {H : Heap} {locs : List Loc} {ls : Array Slot} {qX qM : Nat} {AX AC AD AP AW AY AK AM : Nat → Nat} {i cells slots : Nat} {d f ep n mm : Nat → Int → Int} {σW σY σK : qS} {ℓK ℓM : qL} {QQ : Nat → Option Nat} {hh : Option (Nat × qS)} {i0 i1 : Option (Nat × (Nat → Nat) × (Nat → Int → Int))}
    (hx : p.tables.exec = Jvm.exec) (hb : c.code = cL_law) (F : CallFix p m c cL_law 4 s #[Value.ref b] wsL_law RL) (hK : va_K g.1 vwCl (tyL g) s) (hN : NW s) (hA : ∀ q : Nat, s.heap.size ≤ q → Z q) (hbA : ¬ Z b) (hX : va_X b L xs s s.heap) (hbl : b < s.heap.size) (hi : i + 7 ≤ L) (hL : L ≤ 3584) (hcR : cells + 8 ≤ room_1.cells ∧ slots + 10240 ≤ room_1.slots)
    (K : lw_C p l e s m below meth c b g Z qX qM AX AC AD AP AW AY AK AM i (cells + 8) (slots + 10240) 949) (hO : kO d f ep mm QQ i0 i1) (hP : va_P g.1 vwCl (kT g hh i0 i1 ++ kF g qX qM AX AC AD AP AW AY AK AM (eC d) (eC f) (eC ep) (eC n) (eC (pw mm d)) σW σY σK ℓK ℓM QQ (kV hh)) H) (hD : va_D Z (kT g hh i0 i1 ++ kF g qX qM AX AC AD AP AW AY AK AM (eC d) (eC f) (eC ep) (eC n) (eC (pw mm d)) σW σY σK ℓK ℓM QQ (kV hh))) (hS : va_S Z s.heap H locs) (hl : lv_has ls 4 [(3, .int (nI i)), (2, .ref qM), (1, .ref qX), (0, .ref b)]) : W p l e room_1 s m #[Value.ref b] below meth c H locs cells slots (lw_Z below #[Value.ref b] s) (F0 m 706 ls []) := by
  obtain ⟨⟨r1, s1⟩, x1, -⟩ := e_ask σY hO.xd (xs (nI (i + 1)).toNatClampNeg)
  obtain ⟨r2, n1, m1, k2⟩ := msc_fr (v_ask mm hO.xd ℓM (xs (nI (i + 1)).toNatClampNeg))
  refine lv_aload_n hx hb dL_law_706 rfl (lv_at hl 2 rfl) ?_
  refine lv_aload_n hx hb dL_law_707 rfl (lv_at hl 3 rfl) ?_
  refine lv_iload_n hx hb dL_law_708 rfl (lv_at hl 0 rfl) ?_
  refine lv_iconst (v := 1) hx hb dL_law_709 (by decide) ?_
  refine lv_iadd hx hb dL_law_710 ?_
  refine gtop (y := nI (i + 1)) (nI_adk i 1) ?_
  refine va_sld hx hb hX hbl hbA hS (vp_in_nI (n := i + 1) (by omega) (by omega)) dL_law_711 ?_
  refine gcV_iT (T := kT g hh i0 i1) (ws := kF g qX qM AX AC AD AP AW AY AK AM (eC d) (eC f) (eC ep) (eC n) (eC (pw mm d)) σW σY σK ℓK ℓM QQ (kV hh)) (As := [.int (xs (nI (i + 1)).toNatClampNeg)]) (rest := []) (ci := 6) (q := (RX6, TX6, 8)) F hK hN hP hD hS hA (m_X6_ask l g H.size qX AX AY σY AC (eC d) (xs (nI (i + 1)).toNatClampNeg) r1 s1 x1) gL_law_X6_ask kX6_ask rfl rfl rfl rfl ⟨(Nat.le_of_ble_eq_true rfl), (Nat.le_of_ble_eq_true rfl)⟩ [0, 24, 25, 26, 27, 1, 2, 3, 4, 5, 6, 7, 8] [9, 10, 11, 12, 13, 14, 15, 16, 17, 18, 19, 20, 21, 22, 23, 28, 29, 30, 31, 32, 33, 34, 35, 36, 37, 38, 39, 40, 41, 42, 43, 44, 45, 46, 47, 48, 49, 50, 51, 52] rfl rfl rfl (by decide) rfl rfl rfl rfl rfl hl.1 (Nat.le_of_ble_eq_true rfl) dL_law_712 ⟨by have := hcR.1; omega, by have := hcR.2; omega⟩ (fun r_w u_w H locs hw hP hD hS => ?_)
  have hP : va_P g.1 vwCl ((kT g hh i0 i1) ++ (kF g qX qM AX AC AD AP AW AY AK AM (eC d) (eC f) (eC ep) (eC n) (eC (pw mm d)) σW s1 σK ℓK ℓM QQ (kV hh))) H := tP_sub hP [40, 45, 46, 47, 48, 49, 50, 51, 52, 0, 1, 2, 3, 4, 5, 6, 7, 8, 9, 10, 11, 12, 13, 14, 41, 42, 43, 44, 15, 16, 17, 18, 19, 20, 21, 22, 23, 24, 25, 26, 27, 28, 29, 30, 31, 32, 33, 34, 35, 36, 37, 38, 39] rfl
  have hD : va_D Z ((kT g hh i0 i1) ++ (kF g qX qM AX AC AD AP AW AY AK AM (eC d) (eC f) (eC ep) (eC n) (eC (pw mm d)) σW s1 σK ℓK ℓM QQ (kV hh))) := tD_sub hD [40, 45, 46, 47, 48, 49, 50, 51, 52, 0, 1, 2, 3, 4, 5, 6, 7, 8, 9, 10, 11, 12, 13, 14, 41, 42, 43, 44, 15, 16, 17, 18, 19, 20, 21, 22, 23, 24, 25, 26, 27, 28, 29, 30, 31, 32, 33, 34, 35, 36, 37, 38, 39] (by decide) rfl
  obtain rfl := hw
  refine lv_pop hx hb dL_law_715 rfl ?_
  refine lv_aload_n hx hb dL_law_716 rfl (lv_at hl 1 rfl) ?_
  refine lv_aload_n hx hb dL_law_717 rfl (lv_at hl 3 rfl) ?_
  refine lv_iload_n hx hb dL_law_718 rfl (lv_at hl 0 rfl) ?_
  refine lv_iconst (v := 1) hx hb dL_law_719 (by decide) ?_
  refine lv_iadd hx hb dL_law_720 ?_
  refine gtop (y := nI (i + 1)) (nI_adk i 1) ?_
  refine va_sld hx hb hX hbl hbA hS (vp_in_nI (n := i + 1) (by omega) (by omega)) dL_law_721 ?_
  refine gcV_iT (T := kT g hh i0 i1) (ws := kF g qX qM AX AC AD AP AW AY AK AM (eC d) (eC f) (eC ep) (eC n) (eC (pw mm d)) σW s1 σK ℓK ℓM QQ (kV hh)) (As := [.int (xs (nI (i + 1)).toNatClampNeg)]) (rest := []) (ci := 7) (q := (RX7, TX7, 34)) F hK hN hP hD hS hA (m_X7_ask l g H.size qM AM (eC (pw mm d)) ℓM (xs (nI (i + 1)).toNatClampNeg) r2 (eC (pw n1 d)) m1) gL_law_X7_ask kX7_ask rfl rfl rfl rfl ⟨(Nat.le_of_ble_eq_true rfl), (Nat.le_of_ble_eq_true rfl)⟩ [32, 33, 34, 35, 36, 37, 38, 39, 40, 41, 42, 43, 44, 45, 46, 47, 48, 49, 50, 51, 52] [0, 1, 2, 3, 4, 5, 6, 7, 8, 9, 10, 11, 12, 13, 14, 15, 16, 17, 18, 19, 20, 21, 22, 23, 24, 25, 26, 27, 28, 29, 30, 31] rfl rfl rfl (by decide) rfl rfl rfl rfl rfl hl.1 (Nat.le_of_ble_eq_true rfl) dL_law_722 ⟨by have := hcR.1; omega, by have := hcR.2; omega⟩ (fun r_w u_w H locs hw hP hD hS => ?_)
  have hP : va_P g.1 vwCl ((kT g hh i0 i1) ++ (kF g qX qM AX AC AD AP AW AY AK AM (eC d) (eC f) (eC ep) (eC n) (eC (pw n1 d)) σW s1 σK ℓK ℓM QQ (kV hh))) H := hP
  have hD : va_D Z ((kT g hh i0 i1) ++ (kF g qX qM AX AC AD AP AW AY AK AM (eC d) (eC f) (eC ep) (eC n) (eC (pw n1 d)) σW s1 σK ℓK ℓM QQ (kV hh))) := hD
  obtain rfl := hw
  refine lv_pop hx hb dL_law_725 rfl ?_
  refine lv_goto (tgt := 949) hx hb dL_law_726 (by decide) ?_
  refine W.widen (k := cells + 8) (n := slots + 10240) (by omega) (by omega) ?_
  exact K d f ep n n1 σW s1 σK ℓK ℓM QQ hh i0 i1 (hO.fN k2) H locs ls hP hD hS hl
set_option maxHeartbeats 8000000 in
set_option maxRecDepth 100000 in
theorem ws_729 {p : Program} {l : Launch} {e : Env} {s : State} {m : MethodId} {below : List Frame} {meth : Method} {c : Code} {b L : Nat} {xs : Nat → Int32} {g : GT} {Z : Nat → Prop} {H : Heap} {locs : List Loc} {ls : Array Slot} {qX qM : Nat} {AX AC AD AP AW AY AK AM : Nat → Nat} {i cells slots : Nat} {d f ep n mm : Nat → Int → Int} {σW σY σK : qS} {ℓK ℓM : qL} {QQ : Nat → Option Nat} {hh : Option (Nat × qS)} {i0 i1 : Option (Nat × (Nat → Nat) × (Nat → Int → Int))}
    (hx : p.tables.exec = Jvm.exec) (hb : c.code = cL_law) (F : CallFix p m c cL_law 4 s #[Value.ref b] wsL_law RL) (hK : va_K g.1 vwCl (tyL g) s) (hN : NW s) (hA : ∀ q : Nat, s.heap.size ≤ q → Z q) (hbA : ¬ Z b) (hX : va_X b L xs s s.heap) (hbl : b < s.heap.size) (hi : i + 7 ≤ L) (hL : L ≤ 3584) (hcR : cells + 8 ≤ room_1.cells ∧ slots + 10240 ≤ room_1.slots)
    (K : lw_C p l e s m below meth c b g Z qX qM AX AC AD AP AW AY AK AM i (cells + 8) (slots + 10240) 949) (hO : kO d f ep mm QQ i0 i1) (hP : va_P g.1 vwCl (kT g hh i0 i1 ++ kF g qX qM AX AC AD AP AW AY AK AM (eC d) (eC f) (eC ep) (eC n) (eC (pw mm d)) σW σY σK ℓK ℓM QQ (kV hh)) H) (hD : va_D Z (kT g hh i0 i1 ++ kF g qX qM AX AC AD AP AW AY AK AM (eC d) (eC f) (eC ep) (eC n) (eC (pw mm d)) σW σY σK ℓK ℓM QQ (kV hh))) (hS : va_S Z s.heap H locs) (hl : lv_has ls 4 [(3, .int (nI i)), (2, .ref qM), (1, .ref qX), (0, .ref b)]) : W p l e room_1 s m #[Value.ref b] below meth c H locs cells slots (lw_Z below #[Value.ref b] s) (F0 m 729 ls []) := by
  obtain ⟨⟨r1, s1⟩, x1, -⟩ := e_row σK ℓK (xs (nI (i + 1)).toNatClampNeg) (xs (nI (i + 2)).toNatClampNeg) (xs (nI (i + 3)).toNatClampNeg) (xs (nI (i + 4)).toNatClampNeg) (xs (nI (i + 5)).toNatClampNeg) (xs (nI (i + 6)).toNatClampNeg)
  obtain ⟨⟨r2, l2⟩, m1, -⟩ := v_row (eC (pw mm d)) ℓM (xs (nI (i + 1)).toNatClampNeg) (xs (nI (i + 2)).toNatClampNeg) (xs (nI (i + 3)).toNatClampNeg) (xs (nI (i + 4)).toNatClampNeg) (xs (nI (i + 5)).toNatClampNeg) (xs (nI (i + 6)).toNatClampNeg)
  refine lv_aload_n hx hb dL_law_729 rfl (lv_at hl 2 rfl) ?_
  refine lv_aload_n hx hb dL_law_730 rfl (lv_at hl 3 rfl) ?_
  refine lv_iload_n hx hb dL_law_731 rfl (lv_at hl 0 rfl) ?_
  refine lv_iconst (v := 1) hx hb dL_law_732 (by decide) ?_
  refine lv_iadd hx hb dL_law_733 ?_
  refine gtop (y := nI (i + 1)) (nI_adk i 1) ?_
  refine va_sld hx hb hX hbl hbA hS (vp_in_nI (n := i + 1) (by omega) (by omega)) dL_law_734 ?_
  refine lv_aload_n hx hb dL_law_735 rfl (lv_at hl 3 rfl) ?_
  refine lv_iload_n hx hb dL_law_736 rfl (lv_at hl 0 rfl) ?_
  refine lv_iconst (v := 2) hx hb dL_law_737 (by decide) ?_
  refine lv_iadd hx hb dL_law_738 ?_
  refine gtop (y := nI (i + 2)) (nI_adk i 2) ?_
  refine va_sld hx hb hX hbl hbA hS (vp_in_nI (n := i + 2) (by omega) (by omega)) dL_law_739 ?_
  refine lv_aload_n hx hb dL_law_740 rfl (lv_at hl 3 rfl) ?_
  refine lv_iload_n hx hb dL_law_741 rfl (lv_at hl 0 rfl) ?_
  refine lv_iconst (v := 3) hx hb dL_law_742 (by decide) ?_
  refine lv_iadd hx hb dL_law_743 ?_
  refine gtop (y := nI (i + 3)) (nI_adk i 3) ?_
  refine va_sld hx hb hX hbl hbA hS (vp_in_nI (n := i + 3) (by omega) (by omega)) dL_law_744 ?_
  refine lv_aload_n hx hb dL_law_745 rfl (lv_at hl 3 rfl) ?_
  refine lv_iload_n hx hb dL_law_746 rfl (lv_at hl 0 rfl) ?_
  refine lv_iconst (v := 4) hx hb dL_law_747 (by decide) ?_
  refine lv_iadd hx hb dL_law_748 ?_
  refine gtop (y := nI (i + 4)) (nI_adk i 4) ?_
  refine va_sld hx hb hX hbl hbA hS (vp_in_nI (n := i + 4) (by omega) (by omega)) dL_law_749 ?_
  refine lv_aload_n hx hb dL_law_750 rfl (lv_at hl 3 rfl) ?_
  refine lv_iload_n hx hb dL_law_751 rfl (lv_at hl 0 rfl) ?_
  refine lv_iconst (v := 5) hx hb dL_law_752 (by decide) ?_
  refine lv_iadd hx hb dL_law_753 ?_
  refine gtop (y := nI (i + 5)) (nI_adk i 5) ?_
  refine va_sld hx hb hX hbl hbA hS (vp_in_nI (n := i + 5) (by omega) (by omega)) dL_law_754 ?_
  refine lv_aload_n hx hb dL_law_755 rfl (lv_at hl 3 rfl) ?_
  refine lv_iload_n hx hb dL_law_756 rfl (lv_at hl 0 rfl) ?_
  refine lv_bipush (v := 6) hx hb dL_law_757 (by decide) ?_
  refine lv_iadd hx hb dL_law_759 ?_
  refine gtop (y := nI (i + 6)) (nI_adk i 6) ?_
  refine va_sld hx hb hX hbl hbA hS (vp_in_nI (n := i + 6) (by omega) (by omega)) dL_law_760 ?_
  refine gcV_lT (T := kT g hh i0 i1) (ws := kF g qX qM AX AC AD AP AW AY AK AM (eC d) (eC f) (eC ep) (eC n) (eC (pw mm d)) σW σY σK ℓK ℓM QQ (kV hh)) (As := [.int (xs (nI (i + 1)).toNatClampNeg), .int (xs (nI (i + 2)).toNatClampNeg), .int (xs (nI (i + 3)).toNatClampNeg), .int (xs (nI (i + 4)).toNatClampNeg), .int (xs (nI (i + 5)).toNatClampNeg), .int (xs (nI (i + 6)).toNatClampNeg)]) (rest := []) (ci := 6) (q := (RX6, TX6, 8)) F hK hN hP hD hS hA (m_X6_row l g H.size qX AX AK σK ℓK (xs (nI (i + 1)).toNatClampNeg) (xs (nI (i + 2)).toNatClampNeg) (xs (nI (i + 3)).toNatClampNeg) (xs (nI (i + 4)).toNatClampNeg) (xs (nI (i + 5)).toNatClampNeg) (xs (nI (i + 6)).toNatClampNeg) r1 s1 x1) gL_law_X6_row kX6_row rfl rfl rfl rfl ⟨(Nat.le_of_ble_eq_true rfl), (Nat.le_of_ble_eq_true rfl)⟩ [0, 28, 29, 30, 31] [1, 2, 3, 4, 5, 6, 7, 8, 9, 10, 11, 12, 13, 14, 15, 16, 17, 18, 19, 20, 21, 22, 23, 24, 25, 26, 27, 32, 33, 34, 35, 36, 37, 38, 39, 40, 41, 42, 43, 44, 45, 46, 47, 48, 49, 50, 51, 52] rfl rfl rfl (by decide) rfl rfl rfl rfl rfl hl.1 (Nat.le_of_ble_eq_true rfl) dL_law_761 ⟨by have := hcR.1; omega, by have := hcR.2; omega⟩ (fun r_w u_w H locs hw hP hD hS => ?_)
  have hP : va_P g.1 vwCl ((kT g hh i0 i1) ++ (kF g qX qM AX AC AD AP AW AY AK AM (eC d) (eC f) (eC ep) (eC n) (eC (pw mm d)) σW σY σK s1 ℓM QQ (kV hh))) H := tP_sub hP [48, 0, 1, 2, 3, 4, 5, 6, 7, 8, 9, 10, 11, 12, 13, 14, 15, 16, 17, 18, 19, 20, 21, 22, 23, 24, 25, 26, 49, 50, 51, 52, 27, 28, 29, 30, 31, 32, 33, 34, 35, 36, 37, 38, 39, 40, 41, 42, 43, 44, 45, 46, 47] rfl
  have hD : va_D Z ((kT g hh i0 i1) ++ (kF g qX qM AX AC AD AP AW AY AK AM (eC d) (eC f) (eC ep) (eC n) (eC (pw mm d)) σW σY σK s1 ℓM QQ (kV hh))) := tD_sub hD [48, 0, 1, 2, 3, 4, 5, 6, 7, 8, 9, 10, 11, 12, 13, 14, 15, 16, 17, 18, 19, 20, 21, 22, 23, 24, 25, 26, 49, 50, 51, 52, 27, 28, 29, 30, 31, 32, 33, 34, 35, 36, 37, 38, 39, 40, 41, 42, 43, 44, 45, 46, 47] (by decide) rfl
  obtain rfl := hw
  refine lv_pop2_2 hx hb dL_law_764 rfl ?_
  refine lv_aload_n hx hb dL_law_765 rfl (lv_at hl 1 rfl) ?_
  refine lv_aload_n hx hb dL_law_766 rfl (lv_at hl 3 rfl) ?_
  refine lv_iload_n hx hb dL_law_767 rfl (lv_at hl 0 rfl) ?_
  refine lv_iconst (v := 1) hx hb dL_law_768 (by decide) ?_
  refine lv_iadd hx hb dL_law_769 ?_
  refine gtop (y := nI (i + 1)) (nI_adk i 1) ?_
  refine va_sld hx hb hX hbl hbA hS (vp_in_nI (n := i + 1) (by omega) (by omega)) dL_law_770 ?_
  refine lv_aload_n hx hb dL_law_771 rfl (lv_at hl 3 rfl) ?_
  refine lv_iload_n hx hb dL_law_772 rfl (lv_at hl 0 rfl) ?_
  refine lv_iconst (v := 2) hx hb dL_law_773 (by decide) ?_
  refine lv_iadd hx hb dL_law_774 ?_
  refine gtop (y := nI (i + 2)) (nI_adk i 2) ?_
  refine va_sld hx hb hX hbl hbA hS (vp_in_nI (n := i + 2) (by omega) (by omega)) dL_law_775 ?_
  refine lv_aload_n hx hb dL_law_776 rfl (lv_at hl 3 rfl) ?_
  refine lv_iload_n hx hb dL_law_777 rfl (lv_at hl 0 rfl) ?_
  refine lv_iconst (v := 3) hx hb dL_law_778 (by decide) ?_
  refine lv_iadd hx hb dL_law_779 ?_
  refine gtop (y := nI (i + 3)) (nI_adk i 3) ?_
  refine va_sld hx hb hX hbl hbA hS (vp_in_nI (n := i + 3) (by omega) (by omega)) dL_law_780 ?_
  refine lv_aload_n hx hb dL_law_781 rfl (lv_at hl 3 rfl) ?_
  refine lv_iload_n hx hb dL_law_782 rfl (lv_at hl 0 rfl) ?_
  refine lv_iconst (v := 4) hx hb dL_law_783 (by decide) ?_
  refine lv_iadd hx hb dL_law_784 ?_
  refine gtop (y := nI (i + 4)) (nI_adk i 4) ?_
  refine va_sld hx hb hX hbl hbA hS (vp_in_nI (n := i + 4) (by omega) (by omega)) dL_law_785 ?_
  refine lv_aload_n hx hb dL_law_786 rfl (lv_at hl 3 rfl) ?_
  refine lv_iload_n hx hb dL_law_787 rfl (lv_at hl 0 rfl) ?_
  refine lv_iconst (v := 5) hx hb dL_law_788 (by decide) ?_
  refine lv_iadd hx hb dL_law_789 ?_
  refine gtop (y := nI (i + 5)) (nI_adk i 5) ?_
  refine va_sld hx hb hX hbl hbA hS (vp_in_nI (n := i + 5) (by omega) (by omega)) dL_law_790 ?_
  refine lv_aload_n hx hb dL_law_791 rfl (lv_at hl 3 rfl) ?_
  refine lv_iload_n hx hb dL_law_792 rfl (lv_at hl 0 rfl) ?_
  refine lv_bipush (v := 6) hx hb dL_law_793 (by decide) ?_
  refine lv_iadd hx hb dL_law_795 ?_
  refine gtop (y := nI (i + 6)) (nI_adk i 6) ?_
  refine va_sld hx hb hX hbl hbA hS (vp_in_nI (n := i + 6) (by omega) (by omega)) dL_law_796 ?_
  refine gcV_lT (T := kT g hh i0 i1) (ws := kF g qX qM AX AC AD AP AW AY AK AM (eC d) (eC f) (eC ep) (eC n) (eC (pw mm d)) σW σY σK s1 ℓM QQ (kV hh)) (As := [.int (xs (nI (i + 1)).toNatClampNeg), .int (xs (nI (i + 2)).toNatClampNeg), .int (xs (nI (i + 3)).toNatClampNeg), .int (xs (nI (i + 4)).toNatClampNeg), .int (xs (nI (i + 5)).toNatClampNeg), .int (xs (nI (i + 6)).toNatClampNeg)]) (rest := []) (ci := 7) (q := (RX7, TX7, 34)) F hK hN hP hD hS hA (m_X7_row l g H.size qM AM (eC (pw mm d)) ℓM (xs (nI (i + 1)).toNatClampNeg) (xs (nI (i + 2)).toNatClampNeg) (xs (nI (i + 3)).toNatClampNeg) (xs (nI (i + 4)).toNatClampNeg) (xs (nI (i + 5)).toNatClampNeg) (xs (nI (i + 6)).toNatClampNeg) r2 l2 m1) gL_law_X7_row kX7_row rfl rfl rfl rfl ⟨(Nat.le_of_ble_eq_true rfl), (Nat.le_of_ble_eq_true rfl)⟩ [32, 33, 34, 35, 36, 37, 38, 39, 40, 41, 42, 43, 44, 45, 46, 47, 48, 49, 50, 51, 52] [0, 1, 2, 3, 4, 5, 6, 7, 8, 9, 10, 11, 12, 13, 14, 15, 16, 17, 18, 19, 20, 21, 22, 23, 24, 25, 26, 27, 28, 29, 30, 31] rfl rfl rfl (by decide) rfl rfl rfl rfl rfl hl.1 (Nat.le_of_ble_eq_true rfl) dL_law_797 ⟨by have := hcR.1; omega, by have := hcR.2; omega⟩ (fun r_w u_w H locs hw hP hD hS => ?_)
  have hP : va_P g.1 vwCl ((kT g hh i0 i1) ++ (kF g qX qM AX AC AD AP AW AY AK AM (eC d) (eC f) (eC ep) (eC n) (eC (pw mm d)) σW σY σK s1 l2 QQ (kV hh))) H := hP
  have hD : va_D Z ((kT g hh i0 i1) ++ (kF g qX qM AX AC AD AP AW AY AK AM (eC d) (eC f) (eC ep) (eC n) (eC (pw mm d)) σW σY σK s1 l2 QQ (kV hh))) := hD
  obtain rfl := hw
  refine lv_pop2_2 hx hb dL_law_800 rfl ?_
  refine lv_goto (tgt := 949) hx hb dL_law_801 (by decide) ?_
  refine W.widen (k := cells + 8) (n := slots + 10240) (by omega) (by omega) ?_
  exact K d f ep n mm σW σY σK s1 l2 QQ hh i0 i1 hO H locs ls hP hD hS hl
set_option maxHeartbeats 8000000 in
set_option maxRecDepth 100000 in
theorem ws_804 {p : Program} {l : Launch} {e : Env} {s : State} {m : MethodId} {below : List Frame} {meth : Method} {c : Code} {b L : Nat} {xs : Nat → Int32} {g : GT} {Z : Nat → Prop} {H : Heap} {locs : List Loc} {ls : Array Slot} {qX qM : Nat} {AX AC AD AP AW AY AK AM : Nat → Nat} {i cells slots : Nat} {d f ep n mm : Nat → Int → Int} {σW σY σK : qS} {ℓK ℓM : qL} {QQ : Nat → Option Nat} {hh : Option (Nat × qS)} {i0 i1 : Option (Nat × (Nat → Nat) × (Nat → Int → Int))}
    (hx : p.tables.exec = Jvm.exec) (hb : c.code = cL_law) (F : CallFix p m c cL_law 4 s #[Value.ref b] wsL_law RL) (hK : va_K g.1 vwCl (tyL g) s) (hN : NW s) (hA : ∀ q : Nat, s.heap.size ≤ q → Z q) (hbA : ¬ Z b) (hX : va_X b L xs s s.heap) (hbl : b < s.heap.size) (hi : i + 7 ≤ L) (hL : L ≤ 3584) (hcR : cells + 8 ≤ room_1.cells ∧ slots + 10240 ≤ room_1.slots)
    (K : lw_C p l e s m below meth c b g Z qX qM AX AC AD AP AW AY AK AM i (cells + 8) (slots + 10240) 949) (hO : kO d f ep mm QQ i0 i1) (hP : va_P g.1 vwCl (kT g hh i0 i1 ++ kF g qX qM AX AC AD AP AW AY AK AM (eC d) (eC f) (eC ep) (eC n) (eC (pw mm d)) σW σY σK ℓK ℓM QQ (kV hh)) H) (hD : va_D Z (kT g hh i0 i1 ++ kF g qX qM AX AC AD AP AW AY AK AM (eC d) (eC f) (eC ep) (eC n) (eC (pw mm d)) σW σY σK ℓK ℓM QQ (kV hh))) (hS : va_S Z s.heap H locs) (hl : lv_has ls 4 [(3, .int (nI i)), (2, .ref qM), (1, .ref qX), (0, .ref b)]) : W p l e room_1 s m #[Value.ref b] below meth c H locs cells slots (lw_Z below #[Value.ref b] s) (F0 m 804 ls []) := by
  obtain ⟨⟨r1, s1⟩, x1, -⟩ := e_embers σK ℓK (xs (nI (i + 1)).toNatClampNeg) (xs (nI (i + 2)).toNatClampNeg)
  obtain ⟨r2, n1, m1, k2⟩ := msc_fr (v_embers mm d ℓM (xs (nI (i + 1)).toNatClampNeg) (xs (nI (i + 2)).toNatClampNeg))
  refine lv_aload_n hx hb dL_law_804 rfl (lv_at hl 2 rfl) ?_
  refine lv_aload_n hx hb dL_law_805 rfl (lv_at hl 3 rfl) ?_
  refine lv_iload_n hx hb dL_law_806 rfl (lv_at hl 0 rfl) ?_
  refine lv_iconst (v := 1) hx hb dL_law_807 (by decide) ?_
  refine lv_iadd hx hb dL_law_808 ?_
  refine gtop (y := nI (i + 1)) (nI_adk i 1) ?_
  refine va_sld hx hb hX hbl hbA hS (vp_in_nI (n := i + 1) (by omega) (by omega)) dL_law_809 ?_
  refine lv_aload_n hx hb dL_law_810 rfl (lv_at hl 3 rfl) ?_
  refine lv_iload_n hx hb dL_law_811 rfl (lv_at hl 0 rfl) ?_
  refine lv_iconst (v := 2) hx hb dL_law_812 (by decide) ?_
  refine lv_iadd hx hb dL_law_813 ?_
  refine gtop (y := nI (i + 2)) (nI_adk i 2) ?_
  refine va_sld hx hb hX hbl hbA hS (vp_in_nI (n := i + 2) (by omega) (by omega)) dL_law_814 ?_
  refine gcV_iT (T := kT g hh i0 i1) (ws := kF g qX qM AX AC AD AP AW AY AK AM (eC d) (eC f) (eC ep) (eC n) (eC (pw mm d)) σW σY σK ℓK ℓM QQ (kV hh)) (As := [.int (xs (nI (i + 1)).toNatClampNeg), .int (xs (nI (i + 2)).toNatClampNeg)]) (rest := []) (ci := 6) (q := (RX6, TX6, 8)) F hK hN hP hD hS hA (m_X6_embers l g H.size qX AX AK σK ℓK (xs (nI (i + 1)).toNatClampNeg) (xs (nI (i + 2)).toNatClampNeg) r1 s1 x1) gL_law_X6_embers kX6_embers rfl rfl rfl rfl ⟨(Nat.le_of_ble_eq_true rfl), (Nat.le_of_ble_eq_true rfl)⟩ [0, 28, 29, 30, 31] [1, 2, 3, 4, 5, 6, 7, 8, 9, 10, 11, 12, 13, 14, 15, 16, 17, 18, 19, 20, 21, 22, 23, 24, 25, 26, 27, 32, 33, 34, 35, 36, 37, 38, 39, 40, 41, 42, 43, 44, 45, 46, 47, 48, 49, 50, 51, 52] rfl rfl rfl (by decide) rfl rfl rfl rfl rfl hl.1 (Nat.le_of_ble_eq_true rfl) dL_law_815 ⟨by have := hcR.1; omega, by have := hcR.2; omega⟩ (fun r_w u_w H locs hw hP hD hS => ?_)
  have hP : va_P g.1 vwCl ((kT g hh i0 i1) ++ (kF g qX qM AX AC AD AP AW AY AK AM (eC d) (eC f) (eC ep) (eC n) (eC (pw mm d)) σW σY s1 ℓK ℓM QQ (kV hh))) H := tP_sub hP [48, 0, 1, 2, 3, 4, 5, 6, 7, 8, 9, 10, 11, 12, 13, 14, 15, 16, 17, 18, 19, 20, 21, 22, 23, 24, 25, 26, 49, 50, 51, 52, 27, 28, 29, 30, 31, 32, 33, 34, 35, 36, 37, 38, 39, 40, 41, 42, 43, 44, 45, 46, 47] rfl
  have hD : va_D Z ((kT g hh i0 i1) ++ (kF g qX qM AX AC AD AP AW AY AK AM (eC d) (eC f) (eC ep) (eC n) (eC (pw mm d)) σW σY s1 ℓK ℓM QQ (kV hh))) := tD_sub hD [48, 0, 1, 2, 3, 4, 5, 6, 7, 8, 9, 10, 11, 12, 13, 14, 15, 16, 17, 18, 19, 20, 21, 22, 23, 24, 25, 26, 49, 50, 51, 52, 27, 28, 29, 30, 31, 32, 33, 34, 35, 36, 37, 38, 39, 40, 41, 42, 43, 44, 45, 46, 47] (by decide) rfl
  obtain rfl := hw
  refine lv_pop hx hb dL_law_818 rfl ?_
  refine lv_aload_n hx hb dL_law_819 rfl (lv_at hl 1 rfl) ?_
  refine lv_aload_n hx hb dL_law_820 rfl (lv_at hl 3 rfl) ?_
  refine lv_iload_n hx hb dL_law_821 rfl (lv_at hl 0 rfl) ?_
  refine lv_iconst (v := 1) hx hb dL_law_822 (by decide) ?_
  refine lv_iadd hx hb dL_law_823 ?_
  refine gtop (y := nI (i + 1)) (nI_adk i 1) ?_
  refine va_sld hx hb hX hbl hbA hS (vp_in_nI (n := i + 1) (by omega) (by omega)) dL_law_824 ?_
  refine lv_aload_n hx hb dL_law_825 rfl (lv_at hl 3 rfl) ?_
  refine lv_iload_n hx hb dL_law_826 rfl (lv_at hl 0 rfl) ?_
  refine lv_iconst (v := 2) hx hb dL_law_827 (by decide) ?_
  refine lv_iadd hx hb dL_law_828 ?_
  refine gtop (y := nI (i + 2)) (nI_adk i 2) ?_
  refine va_sld hx hb hX hbl hbA hS (vp_in_nI (n := i + 2) (by omega) (by omega)) dL_law_829 ?_
  refine gcV_iT (T := kT g hh i0 i1) (ws := kF g qX qM AX AC AD AP AW AY AK AM (eC d) (eC f) (eC ep) (eC n) (eC (pw mm d)) σW σY s1 ℓK ℓM QQ (kV hh)) (As := [.int (xs (nI (i + 1)).toNatClampNeg), .int (xs (nI (i + 2)).toNatClampNeg)]) (rest := []) (ci := 7) (q := (RX7, TX7, 34)) F hK hN hP hD hS hA (m_X7_embers l g H.size qM AM (eC (pw mm d)) ℓM (xs (nI (i + 1)).toNatClampNeg) (xs (nI (i + 2)).toNatClampNeg) r2 (eC (pw n1 d)) m1) gL_law_X7_embers kX7_embers rfl rfl rfl rfl ⟨(Nat.le_of_ble_eq_true rfl), (Nat.le_of_ble_eq_true rfl)⟩ [32, 33, 34, 35, 36, 37, 38, 39, 40, 41, 42, 43, 44, 45, 46, 47, 48, 49, 50, 51, 52] [0, 1, 2, 3, 4, 5, 6, 7, 8, 9, 10, 11, 12, 13, 14, 15, 16, 17, 18, 19, 20, 21, 22, 23, 24, 25, 26, 27, 28, 29, 30, 31] rfl rfl rfl (by decide) rfl rfl rfl rfl rfl hl.1 (Nat.le_of_ble_eq_true rfl) dL_law_830 ⟨by have := hcR.1; omega, by have := hcR.2; omega⟩ (fun r_w u_w H locs hw hP hD hS => ?_)
  have hP : va_P g.1 vwCl ((kT g hh i0 i1) ++ (kF g qX qM AX AC AD AP AW AY AK AM (eC d) (eC f) (eC ep) (eC n) (eC (pw n1 d)) σW σY s1 ℓK ℓM QQ (kV hh))) H := hP
  have hD : va_D Z ((kT g hh i0 i1) ++ (kF g qX qM AX AC AD AP AW AY AK AM (eC d) (eC f) (eC ep) (eC n) (eC (pw n1 d)) σW σY s1 ℓK ℓM QQ (kV hh))) := hD
  obtain rfl := hw
  refine lv_pop hx hb dL_law_833 rfl ?_
  refine lv_goto (tgt := 949) hx hb dL_law_834 (by decide) ?_
  refine W.widen (k := cells + 8) (n := slots + 10240) (by omega) (by omega) ?_
  exact K d f ep n n1 σW σY s1 ℓK ℓM QQ hh i0 i1 (hO.fN k2) H locs ls hP hD hS hl
set_option maxHeartbeats 8000000 in
set_option maxRecDepth 100000 in
theorem ws_837 {p : Program} {l : Launch} {e : Env} {s : State} {m : MethodId} {below : List Frame} {meth : Method} {c : Code} {b L : Nat} {xs : Nat → Int32} {g : GT} {Z : Nat → Prop} {H : Heap} {locs : List Loc} {ls : Array Slot} {qX qM : Nat} {AX AC AD AP AW AY AK AM : Nat → Nat} {i cells slots : Nat} {d f ep n mm : Nat → Int → Int} {σW σY σK : qS} {ℓK ℓM : qL} {QQ : Nat → Option Nat} {hh : Option (Nat × qS)} {i0 i1 : Option (Nat × (Nat → Nat) × (Nat → Int → Int))}
    (hx : p.tables.exec = Jvm.exec) (hb : c.code = cL_law) (F : CallFix p m c cL_law 4 s #[Value.ref b] wsL_law RL) (hK : va_K g.1 vwCl (tyL g) s) (hN : NW s) (hA : ∀ q : Nat, s.heap.size ≤ q → Z q) (hbA : ¬ Z b) (hX : va_X b L xs s s.heap) (hbl : b < s.heap.size) (hi : i + 7 ≤ L) (hL : L ≤ 3584) (hcR : cells + 8 ≤ room_1.cells ∧ slots + 10240 ≤ room_1.slots)
    (K : lw_C p l e s m below meth c b g Z qX qM AX AC AD AP AW AY AK AM i (cells + 8) (slots + 10240) 949) (hO : kO d f ep mm QQ i0 i1) (hP : va_P g.1 vwCl (kT g hh i0 i1 ++ kF g qX qM AX AC AD AP AW AY AK AM (eC d) (eC f) (eC ep) (eC n) (eC (pw mm d)) σW σY σK ℓK ℓM QQ (kV hh)) H) (hD : va_D Z (kT g hh i0 i1 ++ kF g qX qM AX AC AD AP AW AY AK AM (eC d) (eC f) (eC ep) (eC n) (eC (pw mm d)) σW σY σK ℓK ℓM QQ (kV hh))) (hS : va_S Z s.heap H locs) (hl : lv_has ls 4 [(3, .int (nI i)), (2, .ref qM), (1, .ref qX), (0, .ref b)]) : W p l e room_1 s m #[Value.ref b] below meth c H locs cells slots (lw_Z below #[Value.ref b] s) (F0 m 837 ls []) := by
  obtain ⟨⟨r1, s1⟩, x1, f1, z1, k1⟩ := e_year hO.xd hO.xf (xs (nI (i + 1)).toNatClampNeg) (xs (nI (i + 2)).toNatClampNeg) (xs (nI (i + 3)).toNatClampNeg)
  dsimp only at z1
  subst z1
  obtain ⟨n1, r2, m1, k2⟩ : ∃ n1 r2, f_X7_year (eC (pw mm d)) ℓM (xs (nI (i + 1)).toNatClampNeg) (xs (nI (i + 2)).toNatClampNeg) (xs (nI (i + 3)).toNatClampNeg) = some (r2, eC (pw n1 d)) ∧ frN mm n1 := by
    obtain ⟨⟨r2, s2⟩, m1, z2 | z2⟩ := v_year mm hO.xd ℓM (xs (nI (i + 1)).toNatClampNeg) (xs (nI (i + 2)).toNatClampNeg) (xs (nI (i + 3)).toNatClampNeg) <;> dsimp only at z2 <;> subst z2
    · exact ⟨mm, r2, m1, frN_rf mm⟩
    · exact ⟨kNow mm d, r2, m1, frN_kNow mm d⟩
  refine lv_aload_n hx hb dL_law_837 rfl (lv_at hl 2 rfl) ?_
  refine lv_aload_n hx hb dL_law_838 rfl (lv_at hl 3 rfl) ?_
  refine lv_iload_n hx hb dL_law_839 rfl (lv_at hl 0 rfl) ?_
  refine lv_iconst (v := 1) hx hb dL_law_840 (by decide) ?_
  refine lv_iadd hx hb dL_law_841 ?_
  refine gtop (y := nI (i + 1)) (nI_adk i 1) ?_
  refine va_sld hx hb hX hbl hbA hS (vp_in_nI (n := i + 1) (by omega) (by omega)) dL_law_842 ?_
  refine lv_aload_n hx hb dL_law_843 rfl (lv_at hl 3 rfl) ?_
  refine lv_iload_n hx hb dL_law_844 rfl (lv_at hl 0 rfl) ?_
  refine lv_iconst (v := 2) hx hb dL_law_845 (by decide) ?_
  refine lv_iadd hx hb dL_law_846 ?_
  refine gtop (y := nI (i + 2)) (nI_adk i 2) ?_
  refine va_sld hx hb hX hbl hbA hS (vp_in_nI (n := i + 2) (by omega) (by omega)) dL_law_847 ?_
  refine lv_aload_n hx hb dL_law_848 rfl (lv_at hl 3 rfl) ?_
  refine lv_iload_n hx hb dL_law_849 rfl (lv_at hl 0 rfl) ?_
  refine lv_iconst (v := 3) hx hb dL_law_850 (by decide) ?_
  refine lv_iadd hx hb dL_law_851 ?_
  refine gtop (y := nI (i + 3)) (nI_adk i 3) ?_
  refine va_sld hx hb hX hbl hbA hS (vp_in_nI (n := i + 3) (by omega) (by omega)) dL_law_852 ?_
  refine gcV_iT (T := kT g hh i0 i1) (ws := kF g qX qM AX AC AD AP AW AY AK AM (eC d) (eC f) (eC ep) (eC n) (eC (pw mm d)) σW σY σK ℓK ℓM QQ (kV hh)) (As := [.int (xs (nI (i + 1)).toNatClampNeg), .int (xs (nI (i + 2)).toNatClampNeg), .int (xs (nI (i + 3)).toNatClampNeg)]) (rest := []) (ci := 6) (q := (RX6, TX6, 8)) F hK hN hP hD hS hA (m_X6_year l g H.size qX AX AD (eC f) AC (eC d) (xs (nI (i + 1)).toNatClampNeg) (xs (nI (i + 2)).toNatClampNeg) (xs (nI (i + 3)).toNatClampNeg) r1 (eC f1) x1) gL_law_X6_year kX6_year rfl rfl rfl rfl ⟨(Nat.le_of_ble_eq_true rfl), (Nat.le_of_ble_eq_true rfl)⟩ [0, 9, 10, 11, 12, 13, 14, 15, 16, 1, 2, 3, 4, 5, 6, 7, 8] [17, 18, 19, 20, 21, 22, 23, 24, 25, 26, 27, 28, 29, 30, 31, 32, 33, 34, 35, 36, 37, 38, 39, 40, 41, 42, 43, 44, 45, 46, 47, 48, 49, 50, 51, 52] rfl rfl rfl (by decide) rfl rfl rfl rfl rfl hl.1 (Nat.le_of_ble_eq_true rfl) dL_law_853 ⟨by have := hcR.1; omega, by have := hcR.2; omega⟩ (fun r_w u_w H locs hw hP hD hS => ?_)
  have hP : va_P g.1 vwCl ((kT g hh i0 i1) ++ (kF g qX qM AX AC AD AP AW AY AK AM (eC d) (eC f1) (eC ep) (eC n) (eC (pw mm d)) σW σY σK ℓK ℓM QQ (kV hh))) H := tP_sub hP [36, 45, 46, 47, 48, 49, 50, 51, 52, 37, 38, 39, 40, 41, 42, 43, 44, 0, 1, 2, 3, 4, 5, 6, 7, 8, 9, 10, 11, 12, 13, 14, 15, 16, 17, 18, 19, 20, 21, 22, 23, 24, 25, 26, 27, 28, 29, 30, 31, 32, 33, 34, 35] rfl
  have hD : va_D Z ((kT g hh i0 i1) ++ (kF g qX qM AX AC AD AP AW AY AK AM (eC d) (eC f1) (eC ep) (eC n) (eC (pw mm d)) σW σY σK ℓK ℓM QQ (kV hh))) := tD_sub hD [36, 45, 46, 47, 48, 49, 50, 51, 52, 37, 38, 39, 40, 41, 42, 43, 44, 0, 1, 2, 3, 4, 5, 6, 7, 8, 9, 10, 11, 12, 13, 14, 15, 16, 17, 18, 19, 20, 21, 22, 23, 24, 25, 26, 27, 28, 29, 30, 31, 32, 33, 34, 35] (by decide) rfl
  obtain rfl := hw
  refine lv_pop hx hb dL_law_856 rfl ?_
  refine lv_aload_n hx hb dL_law_857 rfl (lv_at hl 1 rfl) ?_
  refine lv_aload_n hx hb dL_law_858 rfl (lv_at hl 3 rfl) ?_
  refine lv_iload_n hx hb dL_law_859 rfl (lv_at hl 0 rfl) ?_
  refine lv_iconst (v := 1) hx hb dL_law_860 (by decide) ?_
  refine lv_iadd hx hb dL_law_861 ?_
  refine gtop (y := nI (i + 1)) (nI_adk i 1) ?_
  refine va_sld hx hb hX hbl hbA hS (vp_in_nI (n := i + 1) (by omega) (by omega)) dL_law_862 ?_
  refine lv_aload_n hx hb dL_law_863 rfl (lv_at hl 3 rfl) ?_
  refine lv_iload_n hx hb dL_law_864 rfl (lv_at hl 0 rfl) ?_
  refine lv_iconst (v := 2) hx hb dL_law_865 (by decide) ?_
  refine lv_iadd hx hb dL_law_866 ?_
  refine gtop (y := nI (i + 2)) (nI_adk i 2) ?_
  refine va_sld hx hb hX hbl hbA hS (vp_in_nI (n := i + 2) (by omega) (by omega)) dL_law_867 ?_
  refine lv_aload_n hx hb dL_law_868 rfl (lv_at hl 3 rfl) ?_
  refine lv_iload_n hx hb dL_law_869 rfl (lv_at hl 0 rfl) ?_
  refine lv_iconst (v := 3) hx hb dL_law_870 (by decide) ?_
  refine lv_iadd hx hb dL_law_871 ?_
  refine gtop (y := nI (i + 3)) (nI_adk i 3) ?_
  refine va_sld hx hb hX hbl hbA hS (vp_in_nI (n := i + 3) (by omega) (by omega)) dL_law_872 ?_
  refine gcV_iT (T := kT g hh i0 i1) (ws := kF g qX qM AX AC AD AP AW AY AK AM (eC d) (eC f1) (eC ep) (eC n) (eC (pw mm d)) σW σY σK ℓK ℓM QQ (kV hh)) (As := [.int (xs (nI (i + 1)).toNatClampNeg), .int (xs (nI (i + 2)).toNatClampNeg), .int (xs (nI (i + 3)).toNatClampNeg)]) (rest := []) (ci := 7) (q := (RX7, TX7, 34)) F hK hN hP hD hS hA (m_X7_year l g H.size qM AM (eC (pw mm d)) ℓM (xs (nI (i + 1)).toNatClampNeg) (xs (nI (i + 2)).toNatClampNeg) (xs (nI (i + 3)).toNatClampNeg) r2 (eC (pw n1 d)) m1) gL_law_X7_year kX7_year rfl rfl rfl rfl ⟨(Nat.le_of_ble_eq_true rfl), (Nat.le_of_ble_eq_true rfl)⟩ [32, 33, 34, 35, 36, 37, 38, 39, 40, 41, 42, 43, 44, 45, 46, 47, 48, 49, 50, 51, 52] [0, 1, 2, 3, 4, 5, 6, 7, 8, 9, 10, 11, 12, 13, 14, 15, 16, 17, 18, 19, 20, 21, 22, 23, 24, 25, 26, 27, 28, 29, 30, 31] rfl rfl rfl (by decide) rfl rfl rfl rfl rfl hl.1 (Nat.le_of_ble_eq_true rfl) dL_law_873 ⟨by have := hcR.1; omega, by have := hcR.2; omega⟩ (fun r_w u_w H locs hw hP hD hS => ?_)
  have hP : va_P g.1 vwCl ((kT g hh i0 i1) ++ (kF g qX qM AX AC AD AP AW AY AK AM (eC d) (eC f1) (eC ep) (eC n) (eC (pw n1 d)) σW σY σK ℓK ℓM QQ (kV hh))) H := hP
  have hD : va_D Z ((kT g hh i0 i1) ++ (kF g qX qM AX AC AD AP AW AY AK AM (eC d) (eC f1) (eC ep) (eC n) (eC (pw n1 d)) σW σY σK ℓK ℓM QQ (kV hh))) := hD
  obtain rfl := hw
  refine lv_pop hx hb dL_law_876 rfl ?_
  refine lv_goto (tgt := 949) hx hb dL_law_877 (by decide) ?_
  refine W.widen (k := cells + 8) (n := slots + 10240) (by omega) (by omega) ?_
  exact K d f1 ep n n1 σW σY σK ℓK ℓM QQ hh i0 i1 ((hO.fN k2).dr k1) H locs ls hP hD hS hl
set_option maxHeartbeats 8000000 in
set_option maxRecDepth 100000 in
theorem ws_880 {p : Program} {l : Launch} {e : Env} {s : State} {m : MethodId} {below : List Frame} {meth : Method} {c : Code} {b L : Nat} {xs : Nat → Int32} {g : GT} {Z : Nat → Prop} {H : Heap} {locs : List Loc} {ls : Array Slot} {qX qM : Nat} {AX AC AD AP AW AY AK AM : Nat → Nat} {i cells slots : Nat} {d f ep n mm : Nat → Int → Int} {σW σY σK : qS} {ℓK ℓM : qL} {QQ : Nat → Option Nat} {hh : Option (Nat × qS)} {i0 i1 : Option (Nat × (Nat → Nat) × (Nat → Int → Int))}
    (hx : p.tables.exec = Jvm.exec) (hb : c.code = cL_law) (F : CallFix p m c cL_law 4 s #[Value.ref b] wsL_law RL) (hK : va_K g.1 vwCl (tyL g) s) (hN : NW s) (hA : ∀ q : Nat, s.heap.size ≤ q → Z q) (hbA : ¬ Z b) (hX : va_X b L xs s s.heap) (hbl : b < s.heap.size) (hi : i + 7 ≤ L) (hL : L ≤ 3584) (hcR : cells + 8 ≤ room_1.cells ∧ slots + 10240 ≤ room_1.slots)
    (K : lw_C p l e s m below meth c b g Z qX qM AX AC AD AP AW AY AK AM i (cells + 8) (slots + 10240) 949) (hO : kO d f ep mm QQ i0 i1) (hP : va_P g.1 vwCl (kT g hh i0 i1 ++ kF g qX qM AX AC AD AP AW AY AK AM (eC d) (eC f) (eC ep) (eC n) (eC (pw mm d)) σW σY σK ℓK ℓM QQ (kV hh)) H) (hD : va_D Z (kT g hh i0 i1 ++ kF g qX qM AX AC AD AP AW AY AK AM (eC d) (eC f) (eC ep) (eC n) (eC (pw mm d)) σW σY σK ℓK ℓM QQ (kV hh))) (hS : va_S Z s.heap H locs) (hl : lv_has ls 4 [(3, .int (nI i)), (2, .ref qM), (1, .ref qX), (0, .ref b)]) : W p l e room_1 s m #[Value.ref b] below meth c H locs cells slots (lw_Z below #[Value.ref b] s) (F0 m 880 ls []) := by
  by_cases v0 : xs (nI (i + 1)).toNatClampNeg = 0
  · cases i0 with
    | none =>
      obtain ⟨n1, m1, k1, k2, k3⟩ := m_image_i0 mm d ℓM
      have hP : va_P g.1 vwCl ((tH g hh ++ tI g i1) ++ (kF g qX qM AX AC AD AP AW AY AK AM (eC d) (eC f) (eC ep) (eC n) (eC (pw mm d)) σW σY σK ℓK ℓM QQ (kV hh))) H := P_perm hP (pm_0 (tH g hh) ([] : va_W) (tI g i1) _)
      have hD : va_D Z ((tH g hh ++ tI g i1) ++ (kF g qX qM AX AC AD AP AW AY AK AM (eC d) (eC f) (eC ep) (eC n) (eC (pw mm d)) σW σY σK ℓK ℓM QQ (kV hh))) := D_perm hD (pm_0 (tH g hh) ([] : va_W) (tI g i1) _)
      refine lv_aload_n hx hb dL_law_880 rfl (lv_at hl 2 rfl) ?_
      refine lv_aload_n hx hb dL_law_881 rfl (lv_at hl 3 rfl) ?_
      refine lv_iload_n hx hb dL_law_882 rfl (lv_at hl 0 rfl) ?_
      refine lv_iconst (v := 1) hx hb dL_law_883 (by decide) ?_
      refine lv_iadd hx hb dL_law_884 ?_
      refine gtop (y := nI (i + 1)) (nI_adk i 1) ?_
      refine va_sld hx hb hX hbl hbA hS (vp_in_nI (n := i + 1) (by omega) (by omega)) dL_law_885 ?_
      refine gtop (y := 0) v0 ?_
      refine gcV_iT (T := (tH g hh ++ tI g i1)) (ws := kF g qX qM AX AC AD AP AW AY AK AM (eC d) (eC f) (eC ep) (eC n) (eC (pw mm d)) σW σY σK ℓK ℓM QQ (kV hh)) (As := [.int 0]) (rest := []) (ci := 6) (q := (RX6, TX6, 8)) F hK hN hP hD hS hA (m_X6_image_0n l g H.size qX AX QQ AC (eC d) hO.xq0 (zI 1) (eC d) (x_image_0n hO.xd)) gL_law_X6_image kX6_image rfl rfl rfl rfl ⟨(Nat.le_of_ble_eq_true rfl), (Nat.le_of_ble_eq_true rfl)⟩ [0, 17, 1, 2, 3, 4, 5, 6, 7, 8] [9, 10, 11, 12, 13, 14, 15, 16, 18, 19, 20, 21, 22, 23, 24, 25, 26, 27, 28, 29, 30, 31, 32, 33, 34, 35, 36, 37, 38, 39, 40, 41, 42, 43, 44, 45, 46, 47, 48, 49, 50, 51, 52] rfl rfl rfl (by decide) rfl rfl rfl rfl rfl hl.1 (Nat.le_of_ble_eq_true rfl) dL_law_886 ⟨by have := hcR.1; omega, by have := hcR.2; omega⟩ (fun r_w u_w H locs hw hP hD hS => ?_)
      have hP : va_P g.1 vwCl ((tH g hh ++ tI g i1) ++ (wX1 g u_w.1 u_w.2 (eC d) ++ kF g qX qM AX AC AD AP AW AY AK AM (eC d) (eC f) (eC ep) (eC n) (eC (pw mm d)) σW σY σK ℓK ℓM (va_up QQ (0 : Int32).toNatClampNeg (some u_w.1)) (kV hh))) H := tP_sub hP [53, 54, 55, 56, 57, 58, 59, 60, 43, 45, 46, 47, 48, 49, 50, 51, 52, 0, 1, 2, 3, 4, 5, 6, 7, 44, 8, 9, 10, 11, 12, 13, 14, 15, 16, 17, 18, 19, 20, 21, 22, 23, 24, 25, 26, 27, 28, 29, 30, 31, 32, 33, 34, 35, 36, 37, 38, 39, 40, 41, 42] rfl
      have hD : va_D Z ((tH g hh ++ tI g i1) ++ (wX1 g u_w.1 u_w.2 (eC d) ++ kF g qX qM AX AC AD AP AW AY AK AM (eC d) (eC f) (eC ep) (eC n) (eC (pw mm d)) σW σY σK ℓK ℓM (va_up QQ (0 : Int32).toNatClampNeg (some u_w.1)) (kV hh))) := tD_sub hD [53, 54, 55, 56, 57, 58, 59, 60, 43, 45, 46, 47, 48, 49, 50, 51, 52, 0, 1, 2, 3, 4, 5, 6, 7, 44, 8, 9, 10, 11, 12, 13, 14, 15, 16, 17, 18, 19, 20, 21, 22, 23, 24, 25, 26, 27, 28, 29, 30, 31, 32, 33, 34, 35, 36, 37, 38, 39, 40, 41, 42] (by decide) rfl
      obtain rfl := hw
      obtain ⟨q1, A1⟩ := u_w
      have hP : va_P g.1 vwCl ((kT g hh (some (q1, A1, d)) i1) ++ (kF g qX qM AX AC AD AP AW AY AK AM (eC d) (eC f) (eC ep) (eC n) (eC (pw mm d)) σW σY σK ℓK ℓM (va_up QQ (0 : Int32).toNatClampNeg (some q1)) (kV hh))) H := P_perm hP (pm_0 (tH g hh) (wX1 g q1 A1 (eC d)) (tI g i1) _).symm
      have hD : va_D Z ((kT g hh (some (q1, A1, d)) i1) ++ (kF g qX qM AX AC AD AP AW AY AK AM (eC d) (eC f) (eC ep) (eC n) (eC (pw mm d)) σW σY σK ℓK ℓM (va_up QQ (0 : Int32).toNatClampNeg (some q1)) (kV hh))) := D_perm hD (pm_0 (tH g hh) (wX1 g q1 A1 (eC d)) (tI g i1) _).symm
      refine lv_pop hx hb dL_law_889 rfl ?_
      refine lv_aload_n hx hb dL_law_890 rfl (lv_at hl 1 rfl) ?_
      refine lv_aload_n hx hb dL_law_891 rfl (lv_at hl 3 rfl) ?_
      refine lv_iload_n hx hb dL_law_892 rfl (lv_at hl 0 rfl) ?_
      refine lv_iconst (v := 1) hx hb dL_law_893 (by decide) ?_
      refine lv_iadd hx hb dL_law_894 ?_
      refine gtop (y := nI (i + 1)) (nI_adk i 1) ?_
      refine va_sld hx hb hX hbl hbA hS (vp_in_nI (n := i + 1) (by omega) (by omega)) dL_law_895 ?_
      refine gtop (y := 0) v0 ?_
      refine gcV_iT (T := kT g hh (some (q1, A1, d)) i1) (ws := kF g qX qM AX AC AD AP AW AY AK AM (eC d) (eC f) (eC ep) (eC n) (eC (pw mm d)) σW σY σK ℓK ℓM (va_up QQ (0 : Int32).toNatClampNeg (some q1)) (kV hh)) (As := [.int 0]) (rest := []) (ci := 7) (q := (RX7, TX7, 34)) F hK hN hP hD hS hA (m_X7_image l g H.size qM AM (eC (pw mm d)) ℓM 0 (zI 1) (eC (pw n1 d)) m1) gL_law_X7_image kX7_image rfl rfl rfl rfl ⟨(Nat.le_of_ble_eq_true rfl), (Nat.le_of_ble_eq_true rfl)⟩ [32, 33, 34, 35, 36, 37, 38, 39, 40, 41, 42, 43, 44, 45, 46, 47, 48, 49, 50, 51, 52] [0, 1, 2, 3, 4, 5, 6, 7, 8, 9, 10, 11, 12, 13, 14, 15, 16, 17, 18, 19, 20, 21, 22, 23, 24, 25, 26, 27, 28, 29, 30, 31] rfl rfl rfl (by decide) rfl rfl rfl rfl rfl hl.1 (Nat.le_of_ble_eq_true rfl) dL_law_896 ⟨by have := hcR.1; omega, by have := hcR.2; omega⟩ (fun r_w u_w H locs hw hP hD hS => ?_)
      have hP : va_P g.1 vwCl ((kT g hh (some (q1, A1, d)) i1) ++ (kF g qX qM AX AC AD AP AW AY AK AM (eC d) (eC f) (eC ep) (eC n) (eC (pw n1 d)) σW σY σK ℓK ℓM (va_up QQ (0 : Int32).toNatClampNeg (some q1)) (kV hh))) H := hP
      have hD : va_D Z ((kT g hh (some (q1, A1, d)) i1) ++ (kF g qX qM AX AC AD AP AW AY AK AM (eC d) (eC f) (eC ep) (eC n) (eC (pw n1 d)) σW σY σK ℓK ℓM (va_up QQ (0 : Int32).toNatClampNeg (some q1)) (kV hh))) := hD
      obtain rfl := hw
      refine lv_pop hx hb dL_law_899 rfl ?_
      refine lv_goto (tgt := 949) hx hb dL_law_900 (by decide) ?_
      refine W.widen (k := cells + 8) (n := slots + 10240) (by omega) (by omega) ?_
      exact K d f ep n n1 σW σY σK ℓK ℓM (va_up QQ (0 : Int32).toNatClampNeg (some q1)) hh (some (q1, A1, d)) i1 (hO.im0 (A := A1) k1 k2 k3 rfl rfl) H locs ls hP hD hS hl
    | some z =>
      obtain ⟨q1, A1, g1⟩ := z
      obtain ⟨n1, m1, k1, k2, k3⟩ := m_image_i0 mm d ℓM
      have hP : va_P g.1 vwCl ((tH g hh ++ tI g i1) ++ (wX1 g q1 A1 (eC g1) ++ kF g qX qM AX AC AD AP AW AY AK AM (eC d) (eC f) (eC ep) (eC n) (eC (pw mm d)) σW σY σK ℓK ℓM QQ (kV hh))) H := P_perm hP (pm_0 (tH g hh) (wX1 g q1 A1 (eC g1)) (tI g i1) _)
      have hD : va_D Z ((tH g hh ++ tI g i1) ++ (wX1 g q1 A1 (eC g1) ++ kF g qX qM AX AC AD AP AW AY AK AM (eC d) (eC f) (eC ep) (eC n) (eC (pw mm d)) σW σY σK ℓK ℓM QQ (kV hh))) := D_perm hD (pm_0 (tH g hh) (wX1 g q1 A1 (eC g1)) (tI g i1) _)
      refine lv_aload_n hx hb dL_law_880 rfl (lv_at hl 2 rfl) ?_
      refine lv_aload_n hx hb dL_law_881 rfl (lv_at hl 3 rfl) ?_
      refine lv_iload_n hx hb dL_law_882 rfl (lv_at hl 0 rfl) ?_
      refine lv_iconst (v := 1) hx hb dL_law_883 (by decide) ?_
      refine lv_iadd hx hb dL_law_884 ?_
      refine gtop (y := nI (i + 1)) (nI_adk i 1) ?_
      refine va_sld hx hb hX hbl hbA hS (vp_in_nI (n := i + 1) (by omega) (by omega)) dL_law_885 ?_
      refine gtop (y := 0) v0 ?_
      refine gcV_iT (T := (tH g hh ++ tI g i1)) (ws := (wX1 g q1 A1 (eC g1) ++ kF g qX qM AX AC AD AP AW AY AK AM (eC d) (eC f) (eC ep) (eC n) (eC (pw mm d)) σW σY σK ℓK ℓM QQ (kV hh))) (As := [.int 0]) (rest := []) (ci := 6) (q := (RX6, TX6, 8)) F hK hN hP hD hS hA (m_X6_image_0s l g H.size qX AX QQ AC (eC d) q1 A1 (eC g1) hO.xq0 (zI 1) (eC d) (x_image_0s hO.xd hO.xk0.2.2.1)) gL_law_X6_image kX6_image rfl rfl rfl rfl ⟨(Nat.le_of_ble_eq_true rfl), (Nat.le_of_ble_eq_true rfl)⟩ [8, 25, 9, 10, 11, 12, 13, 14, 15, 16, 0, 1, 2, 3, 4, 5, 6, 7] [17, 18, 19, 20, 21, 22, 23, 24, 26, 27, 28, 29, 30, 31, 32, 33, 34, 35, 36, 37, 38, 39, 40, 41, 42, 43, 44, 45, 46, 47, 48, 49, 50, 51, 52, 53, 54, 55, 56, 57, 58, 59, 60] rfl rfl rfl (by decide) rfl rfl rfl rfl rfl hl.1 (Nat.le_of_ble_eq_true rfl) dL_law_886 ⟨by have := hcR.1; omega, by have := hcR.2; omega⟩ (fun r_w u_w H locs hw hP hD hS => ?_)
      have hP : va_P g.1 vwCl ((tH g hh ++ tI g i1) ++ (wX1 g q1 A1 (eC d) ++ kF g qX qM AX AC AD AP AW AY AK AM (eC d) (eC f) (eC ep) (eC n) (eC (pw mm d)) σW σY σK ℓK ℓM QQ (kV hh))) H := tP_sub hP [53, 54, 55, 56, 57, 58, 59, 60, 43, 45, 46, 47, 48, 49, 50, 51, 52, 0, 1, 2, 3, 4, 5, 6, 7, 44, 8, 9, 10, 11, 12, 13, 14, 15, 16, 17, 18, 19, 20, 21, 22, 23, 24, 25, 26, 27, 28, 29, 30, 31, 32, 33, 34, 35, 36, 37, 38, 39, 40, 41, 42] rfl
      have hD : va_D Z ((tH g hh ++ tI g i1) ++ (wX1 g q1 A1 (eC d) ++ kF g qX qM AX AC AD AP AW AY AK AM (eC d) (eC f) (eC ep) (eC n) (eC (pw mm d)) σW σY σK ℓK ℓM QQ (kV hh))) := tD_sub hD [53, 54, 55, 56, 57, 58, 59, 60, 43, 45, 46, 47, 48, 49, 50, 51, 52, 0, 1, 2, 3, 4, 5, 6, 7, 44, 8, 9, 10, 11, 12, 13, 14, 15, 16, 17, 18, 19, 20, 21, 22, 23, 24, 25, 26, 27, 28, 29, 30, 31, 32, 33, 34, 35, 36, 37, 38, 39, 40, 41, 42] (by decide) rfl
      obtain rfl := hw
      have hP : va_P g.1 vwCl ((kT g hh (some (q1, A1, d)) i1) ++ (kF g qX qM AX AC AD AP AW AY AK AM (eC d) (eC f) (eC ep) (eC n) (eC (pw mm d)) σW σY σK ℓK ℓM QQ (kV hh))) H := P_perm hP (pm_0 (tH g hh) (wX1 g q1 A1 (eC d)) (tI g i1) _).symm
      have hD : va_D Z ((kT g hh (some (q1, A1, d)) i1) ++ (kF g qX qM AX AC AD AP AW AY AK AM (eC d) (eC f) (eC ep) (eC n) (eC (pw mm d)) σW σY σK ℓK ℓM QQ (kV hh))) := D_perm hD (pm_0 (tH g hh) (wX1 g q1 A1 (eC d)) (tI g i1) _).symm
      refine lv_pop hx hb dL_law_889 rfl ?_
      refine lv_aload_n hx hb dL_law_890 rfl (lv_at hl 1 rfl) ?_
      refine lv_aload_n hx hb dL_law_891 rfl (lv_at hl 3 rfl) ?_
      refine lv_iload_n hx hb dL_law_892 rfl (lv_at hl 0 rfl) ?_
      refine lv_iconst (v := 1) hx hb dL_law_893 (by decide) ?_
      refine lv_iadd hx hb dL_law_894 ?_
      refine gtop (y := nI (i + 1)) (nI_adk i 1) ?_
      refine va_sld hx hb hX hbl hbA hS (vp_in_nI (n := i + 1) (by omega) (by omega)) dL_law_895 ?_
      refine gtop (y := 0) v0 ?_
      refine gcV_iT (T := kT g hh (some (q1, A1, d)) i1) (ws := kF g qX qM AX AC AD AP AW AY AK AM (eC d) (eC f) (eC ep) (eC n) (eC (pw mm d)) σW σY σK ℓK ℓM QQ (kV hh)) (As := [.int 0]) (rest := []) (ci := 7) (q := (RX7, TX7, 34)) F hK hN hP hD hS hA (m_X7_image l g H.size qM AM (eC (pw mm d)) ℓM 0 (zI 1) (eC (pw n1 d)) m1) gL_law_X7_image kX7_image rfl rfl rfl rfl ⟨(Nat.le_of_ble_eq_true rfl), (Nat.le_of_ble_eq_true rfl)⟩ [32, 33, 34, 35, 36, 37, 38, 39, 40, 41, 42, 43, 44, 45, 46, 47, 48, 49, 50, 51, 52] [0, 1, 2, 3, 4, 5, 6, 7, 8, 9, 10, 11, 12, 13, 14, 15, 16, 17, 18, 19, 20, 21, 22, 23, 24, 25, 26, 27, 28, 29, 30, 31] rfl rfl rfl (by decide) rfl rfl rfl rfl rfl hl.1 (Nat.le_of_ble_eq_true rfl) dL_law_896 ⟨by have := hcR.1; omega, by have := hcR.2; omega⟩ (fun r_w u_w H locs hw hP hD hS => ?_)
      have hP : va_P g.1 vwCl ((kT g hh (some (q1, A1, d)) i1) ++ (kF g qX qM AX AC AD AP AW AY AK AM (eC d) (eC f) (eC ep) (eC n) (eC (pw n1 d)) σW σY σK ℓK ℓM QQ (kV hh))) H := hP
      have hD : va_D Z ((kT g hh (some (q1, A1, d)) i1) ++ (kF g qX qM AX AC AD AP AW AY AK AM (eC d) (eC f) (eC ep) (eC n) (eC (pw n1 d)) σW σY σK ℓK ℓM QQ (kV hh))) := hD
      obtain rfl := hw
      refine lv_pop hx hb dL_law_899 rfl ?_
      refine lv_goto (tgt := 949) hx hb dL_law_900 (by decide) ?_
      refine W.widen (k := cells + 8) (n := slots + 10240) (by omega) (by omega) ?_
      exact K d f ep n n1 σW σY σK ℓK ℓM QQ hh (some (q1, A1, d)) i1 (hO.im0 (A := A1) k1 k2 k3 hO.xq0 rfl) H locs ls hP hD hS hl
  by_cases v1 : xs (nI (i + 1)).toNatClampNeg = 1
  · cases i1 with
    | none =>
      obtain ⟨n1, m1, k1, k2, k3⟩ := m_image_i1 mm d ℓM
      have hP : va_P g.1 vwCl ((tH g hh ++ tI g i0) ++ (kF g qX qM AX AC AD AP AW AY AK AM (eC d) (eC f) (eC ep) (eC n) (eC (pw mm d)) σW σY σK ℓK ℓM QQ (kV hh))) H := P_perm hP (pm_1 (tH g hh) (tI g i0) ([] : va_W) _)
      have hD : va_D Z ((tH g hh ++ tI g i0) ++ (kF g qX qM AX AC AD AP AW AY AK AM (eC d) (eC f) (eC ep) (eC n) (eC (pw mm d)) σW σY σK ℓK ℓM QQ (kV hh))) := D_perm hD (pm_1 (tH g hh) (tI g i0) ([] : va_W) _)
      refine lv_aload_n hx hb dL_law_880 rfl (lv_at hl 2 rfl) ?_
      refine lv_aload_n hx hb dL_law_881 rfl (lv_at hl 3 rfl) ?_
      refine lv_iload_n hx hb dL_law_882 rfl (lv_at hl 0 rfl) ?_
      refine lv_iconst (v := 1) hx hb dL_law_883 (by decide) ?_
      refine lv_iadd hx hb dL_law_884 ?_
      refine gtop (y := nI (i + 1)) (nI_adk i 1) ?_
      refine va_sld hx hb hX hbl hbA hS (vp_in_nI (n := i + 1) (by omega) (by omega)) dL_law_885 ?_
      refine gtop (y := 1) v1 ?_
      refine gcV_iT (T := (tH g hh ++ tI g i0)) (ws := kF g qX qM AX AC AD AP AW AY AK AM (eC d) (eC f) (eC ep) (eC n) (eC (pw mm d)) σW σY σK ℓK ℓM QQ (kV hh)) (As := [.int 1]) (rest := []) (ci := 6) (q := (RX6, TX6, 8)) F hK hN hP hD hS hA (m_X6_image_1n l g H.size qX AX QQ AC (eC d) hO.xq1 (zI 1) (eC d) (x_image_1n hO.xd)) gL_law_X6_image kX6_image rfl rfl rfl rfl ⟨(Nat.le_of_ble_eq_true rfl), (Nat.le_of_ble_eq_true rfl)⟩ [0, 17, 1, 2, 3, 4, 5, 6, 7, 8] [9, 10, 11, 12, 13, 14, 15, 16, 18, 19, 20, 21, 22, 23, 24, 25, 26, 27, 28, 29, 30, 31, 32, 33, 34, 35, 36, 37, 38, 39, 40, 41, 42, 43, 44, 45, 46, 47, 48, 49, 50, 51, 52] rfl rfl rfl (by decide) rfl rfl rfl rfl rfl hl.1 (Nat.le_of_ble_eq_true rfl) dL_law_886 ⟨by have := hcR.1; omega, by have := hcR.2; omega⟩ (fun r_w u_w H locs hw hP hD hS => ?_)
      have hP : va_P g.1 vwCl ((tH g hh ++ tI g i0) ++ (wX1 g u_w.1 u_w.2 (eC d) ++ kF g qX qM AX AC AD AP AW AY AK AM (eC d) (eC f) (eC ep) (eC n) (eC (pw mm d)) σW σY σK ℓK ℓM (va_up QQ (1 : Int32).toNatClampNeg (some u_w.1)) (kV hh))) H := tP_sub hP [53, 54, 55, 56, 57, 58, 59, 60, 43, 45, 46, 47, 48, 49, 50, 51, 52, 0, 1, 2, 3, 4, 5, 6, 7, 44, 8, 9, 10, 11, 12, 13, 14, 15, 16, 17, 18, 19, 20, 21, 22, 23, 24, 25, 26, 27, 28, 29, 30, 31, 32, 33, 34, 35, 36, 37, 38, 39, 40, 41, 42] rfl
      have hD : va_D Z ((tH g hh ++ tI g i0) ++ (wX1 g u_w.1 u_w.2 (eC d) ++ kF g qX qM AX AC AD AP AW AY AK AM (eC d) (eC f) (eC ep) (eC n) (eC (pw mm d)) σW σY σK ℓK ℓM (va_up QQ (1 : Int32).toNatClampNeg (some u_w.1)) (kV hh))) := tD_sub hD [53, 54, 55, 56, 57, 58, 59, 60, 43, 45, 46, 47, 48, 49, 50, 51, 52, 0, 1, 2, 3, 4, 5, 6, 7, 44, 8, 9, 10, 11, 12, 13, 14, 15, 16, 17, 18, 19, 20, 21, 22, 23, 24, 25, 26, 27, 28, 29, 30, 31, 32, 33, 34, 35, 36, 37, 38, 39, 40, 41, 42] (by decide) rfl
      obtain rfl := hw
      obtain ⟨q1, A1⟩ := u_w
      have hP : va_P g.1 vwCl ((kT g hh i0 (some (q1, A1, d))) ++ (kF g qX qM AX AC AD AP AW AY AK AM (eC d) (eC f) (eC ep) (eC n) (eC (pw mm d)) σW σY σK ℓK ℓM (va_up QQ (1 : Int32).toNatClampNeg (some q1)) (kV hh))) H := P_perm hP (pm_1 (tH g hh) (tI g i0) (wX1 g q1 A1 (eC d)) _).symm
      have hD : va_D Z ((kT g hh i0 (some (q1, A1, d))) ++ (kF g qX qM AX AC AD AP AW AY AK AM (eC d) (eC f) (eC ep) (eC n) (eC (pw mm d)) σW σY σK ℓK ℓM (va_up QQ (1 : Int32).toNatClampNeg (some q1)) (kV hh))) := D_perm hD (pm_1 (tH g hh) (tI g i0) (wX1 g q1 A1 (eC d)) _).symm
      refine lv_pop hx hb dL_law_889 rfl ?_
      refine lv_aload_n hx hb dL_law_890 rfl (lv_at hl 1 rfl) ?_
      refine lv_aload_n hx hb dL_law_891 rfl (lv_at hl 3 rfl) ?_
      refine lv_iload_n hx hb dL_law_892 rfl (lv_at hl 0 rfl) ?_
      refine lv_iconst (v := 1) hx hb dL_law_893 (by decide) ?_
      refine lv_iadd hx hb dL_law_894 ?_
      refine gtop (y := nI (i + 1)) (nI_adk i 1) ?_
      refine va_sld hx hb hX hbl hbA hS (vp_in_nI (n := i + 1) (by omega) (by omega)) dL_law_895 ?_
      refine gtop (y := 1) v1 ?_
      refine gcV_iT (T := kT g hh i0 (some (q1, A1, d))) (ws := kF g qX qM AX AC AD AP AW AY AK AM (eC d) (eC f) (eC ep) (eC n) (eC (pw mm d)) σW σY σK ℓK ℓM (va_up QQ (1 : Int32).toNatClampNeg (some q1)) (kV hh)) (As := [.int 1]) (rest := []) (ci := 7) (q := (RX7, TX7, 34)) F hK hN hP hD hS hA (m_X7_image l g H.size qM AM (eC (pw mm d)) ℓM 1 (zI 1) (eC (pw n1 d)) m1) gL_law_X7_image kX7_image rfl rfl rfl rfl ⟨(Nat.le_of_ble_eq_true rfl), (Nat.le_of_ble_eq_true rfl)⟩ [32, 33, 34, 35, 36, 37, 38, 39, 40, 41, 42, 43, 44, 45, 46, 47, 48, 49, 50, 51, 52] [0, 1, 2, 3, 4, 5, 6, 7, 8, 9, 10, 11, 12, 13, 14, 15, 16, 17, 18, 19, 20, 21, 22, 23, 24, 25, 26, 27, 28, 29, 30, 31] rfl rfl rfl (by decide) rfl rfl rfl rfl rfl hl.1 (Nat.le_of_ble_eq_true rfl) dL_law_896 ⟨by have := hcR.1; omega, by have := hcR.2; omega⟩ (fun r_w u_w H locs hw hP hD hS => ?_)
      have hP : va_P g.1 vwCl ((kT g hh i0 (some (q1, A1, d))) ++ (kF g qX qM AX AC AD AP AW AY AK AM (eC d) (eC f) (eC ep) (eC n) (eC (pw n1 d)) σW σY σK ℓK ℓM (va_up QQ (1 : Int32).toNatClampNeg (some q1)) (kV hh))) H := hP
      have hD : va_D Z ((kT g hh i0 (some (q1, A1, d))) ++ (kF g qX qM AX AC AD AP AW AY AK AM (eC d) (eC f) (eC ep) (eC n) (eC (pw n1 d)) σW σY σK ℓK ℓM (va_up QQ (1 : Int32).toNatClampNeg (some q1)) (kV hh))) := hD
      obtain rfl := hw
      refine lv_pop hx hb dL_law_899 rfl ?_
      refine lv_goto (tgt := 949) hx hb dL_law_900 (by decide) ?_
      refine W.widen (k := cells + 8) (n := slots + 10240) (by omega) (by omega) ?_
      exact K d f ep n n1 σW σY σK ℓK ℓM (va_up QQ (1 : Int32).toNatClampNeg (some q1)) hh i0 (some (q1, A1, d)) (hO.im1 (A := A1) k1 k2 k3 rfl rfl) H locs ls hP hD hS hl
    | some z =>
      obtain ⟨q1, A1, g1⟩ := z
      obtain ⟨n1, m1, k1, k2, k3⟩ := m_image_i1 mm d ℓM
      have hP : va_P g.1 vwCl ((tH g hh ++ tI g i0) ++ (wX1 g q1 A1 (eC g1) ++ kF g qX qM AX AC AD AP AW AY AK AM (eC d) (eC f) (eC ep) (eC n) (eC (pw mm d)) σW σY σK ℓK ℓM QQ (kV hh))) H := P_perm hP (pm_1 (tH g hh) (tI g i0) (wX1 g q1 A1 (eC g1)) _)
      have hD : va_D Z ((tH g hh ++ tI g i0) ++ (wX1 g q1 A1 (eC g1) ++ kF g qX qM AX AC AD AP AW AY AK AM (eC d) (eC f) (eC ep) (eC n) (eC (pw mm d)) σW σY σK ℓK ℓM QQ (kV hh))) := D_perm hD (pm_1 (tH g hh) (tI g i0) (wX1 g q1 A1 (eC g1)) _)
      refine lv_aload_n hx hb dL_law_880 rfl (lv_at hl 2 rfl) ?_
      refine lv_aload_n hx hb dL_law_881 rfl (lv_at hl 3 rfl) ?_
      refine lv_iload_n hx hb dL_law_882 rfl (lv_at hl 0 rfl) ?_
      refine lv_iconst (v := 1) hx hb dL_law_883 (by decide) ?_
      refine lv_iadd hx hb dL_law_884 ?_
      refine gtop (y := nI (i + 1)) (nI_adk i 1) ?_
      refine va_sld hx hb hX hbl hbA hS (vp_in_nI (n := i + 1) (by omega) (by omega)) dL_law_885 ?_
      refine gtop (y := 1) v1 ?_
      refine gcV_iT (T := (tH g hh ++ tI g i0)) (ws := (wX1 g q1 A1 (eC g1) ++ kF g qX qM AX AC AD AP AW AY AK AM (eC d) (eC f) (eC ep) (eC n) (eC (pw mm d)) σW σY σK ℓK ℓM QQ (kV hh))) (As := [.int 1]) (rest := []) (ci := 6) (q := (RX6, TX6, 8)) F hK hN hP hD hS hA (m_X6_image_1s l g H.size qX AX QQ AC (eC d) q1 A1 (eC g1) hO.xq1 (zI 1) (eC d) (x_image_1s hO.xd hO.xk1.2.2.1)) gL_law_X6_image kX6_image rfl rfl rfl rfl ⟨(Nat.le_of_ble_eq_true rfl), (Nat.le_of_ble_eq_true rfl)⟩ [8, 25, 9, 10, 11, 12, 13, 14, 15, 16, 0, 1, 2, 3, 4, 5, 6, 7] [17, 18, 19, 20, 21, 22, 23, 24, 26, 27, 28, 29, 30, 31, 32, 33, 34, 35, 36, 37, 38, 39, 40, 41, 42, 43, 44, 45, 46, 47, 48, 49, 50, 51, 52, 53, 54, 55, 56, 57, 58, 59, 60] rfl rfl rfl (by decide) rfl rfl rfl rfl rfl hl.1 (Nat.le_of_ble_eq_true rfl) dL_law_886 ⟨by have := hcR.1; omega, by have := hcR.2; omega⟩ (fun r_w u_w H locs hw hP hD hS => ?_)
      have hP : va_P g.1 vwCl ((tH g hh ++ tI g i0) ++ (wX1 g q1 A1 (eC d) ++ kF g qX qM AX AC AD AP AW AY AK AM (eC d) (eC f) (eC ep) (eC n) (eC (pw mm d)) σW σY σK ℓK ℓM QQ (kV hh))) H := tP_sub hP [53, 54, 55, 56, 57, 58, 59, 60, 43, 45, 46, 47, 48, 49, 50, 51, 52, 0, 1, 2, 3, 4, 5, 6, 7, 44, 8, 9, 10, 11, 12, 13, 14, 15, 16, 17, 18, 19, 20, 21, 22, 23, 24, 25, 26, 27, 28, 29, 30, 31, 32, 33, 34, 35, 36, 37, 38, 39, 40, 41, 42] rfl
      have hD : va_D Z ((tH g hh ++ tI g i0) ++ (wX1 g q1 A1 (eC d) ++ kF g qX qM AX AC AD AP AW AY AK AM (eC d) (eC f) (eC ep) (eC n) (eC (pw mm d)) σW σY σK ℓK ℓM QQ (kV hh))) := tD_sub hD [53, 54, 55, 56, 57, 58, 59, 60, 43, 45, 46, 47, 48, 49, 50, 51, 52, 0, 1, 2, 3, 4, 5, 6, 7, 44, 8, 9, 10, 11, 12, 13, 14, 15, 16, 17, 18, 19, 20, 21, 22, 23, 24, 25, 26, 27, 28, 29, 30, 31, 32, 33, 34, 35, 36, 37, 38, 39, 40, 41, 42] (by decide) rfl
      obtain rfl := hw
      have hP : va_P g.1 vwCl ((kT g hh i0 (some (q1, A1, d))) ++ (kF g qX qM AX AC AD AP AW AY AK AM (eC d) (eC f) (eC ep) (eC n) (eC (pw mm d)) σW σY σK ℓK ℓM QQ (kV hh))) H := P_perm hP (pm_1 (tH g hh) (tI g i0) (wX1 g q1 A1 (eC d)) _).symm
      have hD : va_D Z ((kT g hh i0 (some (q1, A1, d))) ++ (kF g qX qM AX AC AD AP AW AY AK AM (eC d) (eC f) (eC ep) (eC n) (eC (pw mm d)) σW σY σK ℓK ℓM QQ (kV hh))) := D_perm hD (pm_1 (tH g hh) (tI g i0) (wX1 g q1 A1 (eC d)) _).symm
      refine lv_pop hx hb dL_law_889 rfl ?_
      refine lv_aload_n hx hb dL_law_890 rfl (lv_at hl 1 rfl) ?_
      refine lv_aload_n hx hb dL_law_891 rfl (lv_at hl 3 rfl) ?_
      refine lv_iload_n hx hb dL_law_892 rfl (lv_at hl 0 rfl) ?_
      refine lv_iconst (v := 1) hx hb dL_law_893 (by decide) ?_
      refine lv_iadd hx hb dL_law_894 ?_
      refine gtop (y := nI (i + 1)) (nI_adk i 1) ?_
      refine va_sld hx hb hX hbl hbA hS (vp_in_nI (n := i + 1) (by omega) (by omega)) dL_law_895 ?_
      refine gtop (y := 1) v1 ?_
      refine gcV_iT (T := kT g hh i0 (some (q1, A1, d))) (ws := kF g qX qM AX AC AD AP AW AY AK AM (eC d) (eC f) (eC ep) (eC n) (eC (pw mm d)) σW σY σK ℓK ℓM QQ (kV hh)) (As := [.int 1]) (rest := []) (ci := 7) (q := (RX7, TX7, 34)) F hK hN hP hD hS hA (m_X7_image l g H.size qM AM (eC (pw mm d)) ℓM 1 (zI 1) (eC (pw n1 d)) m1) gL_law_X7_image kX7_image rfl rfl rfl rfl ⟨(Nat.le_of_ble_eq_true rfl), (Nat.le_of_ble_eq_true rfl)⟩ [32, 33, 34, 35, 36, 37, 38, 39, 40, 41, 42, 43, 44, 45, 46, 47, 48, 49, 50, 51, 52] [0, 1, 2, 3, 4, 5, 6, 7, 8, 9, 10, 11, 12, 13, 14, 15, 16, 17, 18, 19, 20, 21, 22, 23, 24, 25, 26, 27, 28, 29, 30, 31] rfl rfl rfl (by decide) rfl rfl rfl rfl rfl hl.1 (Nat.le_of_ble_eq_true rfl) dL_law_896 ⟨by have := hcR.1; omega, by have := hcR.2; omega⟩ (fun r_w u_w H locs hw hP hD hS => ?_)
      have hP : va_P g.1 vwCl ((kT g hh i0 (some (q1, A1, d))) ++ (kF g qX qM AX AC AD AP AW AY AK AM (eC d) (eC f) (eC ep) (eC n) (eC (pw n1 d)) σW σY σK ℓK ℓM QQ (kV hh))) H := hP
      have hD : va_D Z ((kT g hh i0 (some (q1, A1, d))) ++ (kF g qX qM AX AC AD AP AW AY AK AM (eC d) (eC f) (eC ep) (eC n) (eC (pw n1 d)) σW σY σK ℓK ℓM QQ (kV hh))) := hD
      obtain rfl := hw
      refine lv_pop hx hb dL_law_899 rfl ?_
      refine lv_goto (tgt := 949) hx hb dL_law_900 (by decide) ?_
      refine W.widen (k := cells + 8) (n := slots + 10240) (by omega) (by omega) ?_
      exact K d f ep n n1 σW σY σK ℓK ℓM QQ hh i0 (some (q1, A1, d)) (hO.im1 (A := A1) k1 k2 k3 hO.xq1 rfl) H locs ls hP hD hS hl
  obtain ⟨x1, m1⟩ := c_image_x mm d ℓM v0 v1
  refine lv_aload_n hx hb dL_law_880 rfl (lv_at hl 2 rfl) ?_
  refine lv_aload_n hx hb dL_law_881 rfl (lv_at hl 3 rfl) ?_
  refine lv_iload_n hx hb dL_law_882 rfl (lv_at hl 0 rfl) ?_
  refine lv_iconst (v := 1) hx hb dL_law_883 (by decide) ?_
  refine lv_iadd hx hb dL_law_884 ?_
  refine gtop (y := nI (i + 1)) (nI_adk i 1) ?_
  refine va_sld hx hb hX hbl hbA hS (vp_in_nI (n := i + 1) (by omega) (by omega)) dL_law_885 ?_
  refine gcV_iT (T := kT g hh i0 i1) (ws := kF g qX qM AX AC AD AP AW AY AK AM (eC d) (eC f) (eC ep) (eC n) (eC (pw mm d)) σW σY σK ℓK ℓM QQ (kV hh)) (As := [.int (xs (nI (i + 1)).toNatClampNeg)]) (rest := []) (ci := 6) (q := (RX6, TX6, 8)) F hK hN hP hD hS hA (m_X6_image_x l g H.size qX AX QQ (xs (nI (i + 1)).toNatClampNeg) (zI (-2)) x1) gL_law_X6_image kX6_image rfl rfl rfl rfl ⟨(Nat.le_of_ble_eq_true rfl), (Nat.le_of_ble_eq_true rfl)⟩ [0, 17] [1, 2, 3, 4, 5, 6, 7, 8, 9, 10, 11, 12, 13, 14, 15, 16, 18, 19, 20, 21, 22, 23, 24, 25, 26, 27, 28, 29, 30, 31, 32, 33, 34, 35, 36, 37, 38, 39, 40, 41, 42, 43, 44, 45, 46, 47, 48, 49, 50, 51, 52] rfl rfl rfl (by decide) rfl rfl rfl rfl rfl hl.1 (Nat.le_of_ble_eq_true rfl) dL_law_886 ⟨by have := hcR.1; omega, by have := hcR.2; omega⟩ (fun r_w u_w H locs hw hP hD hS => ?_)
  have hP : va_P g.1 vwCl ((kT g hh i0 i1) ++ (kF g qX qM AX AC AD AP AW AY AK AM (eC d) (eC f) (eC ep) (eC n) (eC (pw mm d)) σW σY σK ℓK ℓM QQ (kV hh))) H := tP_sub hP [51, 0, 1, 2, 3, 4, 5, 6, 7, 8, 9, 10, 11, 12, 13, 14, 15, 52, 16, 17, 18, 19, 20, 21, 22, 23, 24, 25, 26, 27, 28, 29, 30, 31, 32, 33, 34, 35, 36, 37, 38, 39, 40, 41, 42, 43, 44, 45, 46, 47, 48, 49, 50] rfl
  have hD : va_D Z ((kT g hh i0 i1) ++ (kF g qX qM AX AC AD AP AW AY AK AM (eC d) (eC f) (eC ep) (eC n) (eC (pw mm d)) σW σY σK ℓK ℓM QQ (kV hh))) := tD_sub hD [51, 0, 1, 2, 3, 4, 5, 6, 7, 8, 9, 10, 11, 12, 13, 14, 15, 52, 16, 17, 18, 19, 20, 21, 22, 23, 24, 25, 26, 27, 28, 29, 30, 31, 32, 33, 34, 35, 36, 37, 38, 39, 40, 41, 42, 43, 44, 45, 46, 47, 48, 49, 50] (by decide) rfl
  obtain rfl := hw
  refine lv_pop hx hb dL_law_889 rfl ?_
  refine lv_aload_n hx hb dL_law_890 rfl (lv_at hl 1 rfl) ?_
  refine lv_aload_n hx hb dL_law_891 rfl (lv_at hl 3 rfl) ?_
  refine lv_iload_n hx hb dL_law_892 rfl (lv_at hl 0 rfl) ?_
  refine lv_iconst (v := 1) hx hb dL_law_893 (by decide) ?_
  refine lv_iadd hx hb dL_law_894 ?_
  refine gtop (y := nI (i + 1)) (nI_adk i 1) ?_
  refine va_sld hx hb hX hbl hbA hS (vp_in_nI (n := i + 1) (by omega) (by omega)) dL_law_895 ?_
  refine gcV_iT (T := kT g hh i0 i1) (ws := kF g qX qM AX AC AD AP AW AY AK AM (eC d) (eC f) (eC ep) (eC n) (eC (pw mm d)) σW σY σK ℓK ℓM QQ (kV hh)) (As := [.int (xs (nI (i + 1)).toNatClampNeg)]) (rest := []) (ci := 7) (q := (RX7, TX7, 34)) F hK hN hP hD hS hA (m_X7_image l g H.size qM AM (eC (pw mm d)) ℓM (xs (nI (i + 1)).toNatClampNeg) (zI (-2)) (eC (pw mm d)) m1) gL_law_X7_image kX7_image rfl rfl rfl rfl ⟨(Nat.le_of_ble_eq_true rfl), (Nat.le_of_ble_eq_true rfl)⟩ [32, 33, 34, 35, 36, 37, 38, 39, 40, 41, 42, 43, 44, 45, 46, 47, 48, 49, 50, 51, 52] [0, 1, 2, 3, 4, 5, 6, 7, 8, 9, 10, 11, 12, 13, 14, 15, 16, 17, 18, 19, 20, 21, 22, 23, 24, 25, 26, 27, 28, 29, 30, 31] rfl rfl rfl (by decide) rfl rfl rfl rfl rfl hl.1 (Nat.le_of_ble_eq_true rfl) dL_law_896 ⟨by have := hcR.1; omega, by have := hcR.2; omega⟩ (fun r_w u_w H locs hw hP hD hS => ?_)
  have hP : va_P g.1 vwCl ((kT g hh i0 i1) ++ (kF g qX qM AX AC AD AP AW AY AK AM (eC d) (eC f) (eC ep) (eC n) (eC (pw mm d)) σW σY σK ℓK ℓM QQ (kV hh))) H := hP
  have hD : va_D Z ((kT g hh i0 i1) ++ (kF g qX qM AX AC AD AP AW AY AK AM (eC d) (eC f) (eC ep) (eC n) (eC (pw mm d)) σW σY σK ℓK ℓM QQ (kV hh))) := hD
  obtain rfl := hw
  refine lv_pop hx hb dL_law_899 rfl ?_
  refine lv_goto (tgt := 949) hx hb dL_law_900 (by decide) ?_
  refine W.widen (k := cells + 8) (n := slots + 10240) (by omega) (by omega) ?_
  exact K d f ep n mm σW σY σK ℓK ℓM QQ hh i0 i1 hO H locs ls hP hD hS hl
set_option maxHeartbeats 8000000 in
set_option maxRecDepth 100000 in
theorem ws_903 {p : Program} {l : Launch} {e : Env} {s : State} {m : MethodId} {below : List Frame} {meth : Method} {c : Code} {b L : Nat} {xs : Nat → Int32} {g : GT} {Z : Nat → Prop} {H : Heap} {locs : List Loc} {ls : Array Slot} {qX qM : Nat} {AX AC AD AP AW AY AK AM : Nat → Nat} {i cells slots : Nat} {d f ep n mm : Nat → Int → Int} {σW σY σK : qS} {ℓK ℓM : qL} {QQ : Nat → Option Nat} {hh : Option (Nat × qS)} {i0 i1 : Option (Nat × (Nat → Nat) × (Nat → Int → Int))}
    (hx : p.tables.exec = Jvm.exec) (hb : c.code = cL_law) (F : CallFix p m c cL_law 4 s #[Value.ref b] wsL_law RL) (hK : va_K g.1 vwCl (tyL g) s) (hN : NW s) (hA : ∀ q : Nat, s.heap.size ≤ q → Z q) (hbA : ¬ Z b) (hX : va_X b L xs s s.heap) (hbl : b < s.heap.size) (hi : i + 7 ≤ L) (hL : L ≤ 3584) (hcR : cells + 8 ≤ room_1.cells ∧ slots + 10240 ≤ room_1.slots)
    (K : lw_C p l e s m below meth c b g Z qX qM AX AC AD AP AW AY AK AM i (cells + 8) (slots + 10240) 949) (hO : kO d f ep mm QQ i0 i1) (hP : va_P g.1 vwCl (kT g hh i0 i1 ++ kF g qX qM AX AC AD AP AW AY AK AM (eC d) (eC f) (eC ep) (eC n) (eC (pw mm d)) σW σY σK ℓK ℓM QQ (kV hh)) H) (hD : va_D Z (kT g hh i0 i1 ++ kF g qX qM AX AC AD AP AW AY AK AM (eC d) (eC f) (eC ep) (eC n) (eC (pw mm d)) σW σY σK ℓK ℓM QQ (kV hh))) (hS : va_S Z s.heap H locs) (hl : lv_has ls 4 [(3, .int (nI i)), (2, .ref qM), (1, .ref qX), (0, .ref b)]) : W p l e room_1 s m #[Value.ref b] below meth c H locs cells slots (lw_Z below #[Value.ref b] s) (F0 m 903 ls []) := by
  by_cases v0 : xs (nI (i + 1)).toNatClampNeg = 0
  · cases i0 with
    | none =>
      refine lv_aload_n hx hb dL_law_903 rfl (lv_at hl 2 rfl) ?_
      refine lv_aload_n hx hb dL_law_904 rfl (lv_at hl 3 rfl) ?_
      refine lv_iload_n hx hb dL_law_905 rfl (lv_at hl 0 rfl) ?_
      refine lv_iconst (v := 1) hx hb dL_law_906 (by decide) ?_
      refine lv_iadd hx hb dL_law_907 ?_
      refine gtop (y := nI (i + 1)) (nI_adk i 1) ?_
      refine va_sld hx hb hX hbl hbA hS (vp_in_nI (n := i + 1) (by omega) (by omega)) dL_law_908 ?_
      refine gtop (y := 0) v0 ?_
      refine gcV_iT (T := kT g hh none i1) (ws := kF g qX qM AX AC AD AP AW AY AK AM (eC d) (eC f) (eC ep) (eC n) (eC (pw mm d)) σW σY σK ℓK ℓM QQ (kV hh)) (As := [.int 0]) (rest := []) (ci := 6) (q := (RX6, TX6, 8)) F hK hN hP hD hS hA (m_X6_restore_0n l g H.size qX AX QQ hO.xq0 (zI (-3)) x_restore_0n) gL_law_X6_restore kX6_restore rfl rfl rfl rfl ⟨(Nat.le_of_ble_eq_true rfl), (Nat.le_of_ble_eq_true rfl)⟩ [0, 17] [1, 2, 3, 4, 5, 6, 7, 8, 9, 10, 11, 12, 13, 14, 15, 16, 18, 19, 20, 21, 22, 23, 24, 25, 26, 27, 28, 29, 30, 31, 32, 33, 34, 35, 36, 37, 38, 39, 40, 41, 42, 43, 44, 45, 46, 47, 48, 49, 50, 51, 52] rfl rfl rfl (by decide) rfl rfl rfl rfl rfl hl.1 (Nat.le_of_ble_eq_true rfl) dL_law_909 ⟨by have := hcR.1; omega, by have := hcR.2; omega⟩ (fun r_w u_w H locs hw hP hD hS => ?_)
      have hP : va_P g.1 vwCl ((kT g hh none i1) ++ (kF g qX qM AX AC AD AP AW AY AK AM (eC d) (eC f) (eC ep) (eC n) (eC (pw mm d)) σW σY σK ℓK ℓM QQ (kV hh))) H := tP_sub hP [51, 0, 1, 2, 3, 4, 5, 6, 7, 8, 9, 10, 11, 12, 13, 14, 15, 52, 16, 17, 18, 19, 20, 21, 22, 23, 24, 25, 26, 27, 28, 29, 30, 31, 32, 33, 34, 35, 36, 37, 38, 39, 40, 41, 42, 43, 44, 45, 46, 47, 48, 49, 50] rfl
      have hD : va_D Z ((kT g hh none i1) ++ (kF g qX qM AX AC AD AP AW AY AK AM (eC d) (eC f) (eC ep) (eC n) (eC (pw mm d)) σW σY σK ℓK ℓM QQ (kV hh))) := tD_sub hD [51, 0, 1, 2, 3, 4, 5, 6, 7, 8, 9, 10, 11, 12, 13, 14, 15, 52, 16, 17, 18, 19, 20, 21, 22, 23, 24, 25, 26, 27, 28, 29, 30, 31, 32, 33, 34, 35, 36, 37, 38, 39, 40, 41, 42, 43, 44, 45, 46, 47, 48, 49, 50] (by decide) rfl
      obtain rfl := hw
      refine lv_pop hx hb dL_law_912 rfl ?_
      refine lv_aload_n hx hb dL_law_913 rfl (lv_at hl 1 rfl) ?_
      refine lv_aload_n hx hb dL_law_914 rfl (lv_at hl 3 rfl) ?_
      refine lv_iload_n hx hb dL_law_915 rfl (lv_at hl 0 rfl) ?_
      refine lv_iconst (v := 1) hx hb dL_law_916 (by decide) ?_
      refine lv_iadd hx hb dL_law_917 ?_
      refine gtop (y := nI (i + 1)) (nI_adk i 1) ?_
      refine va_sld hx hb hX hbl hbA hS (vp_in_nI (n := i + 1) (by omega) (by omega)) dL_law_918 ?_
      refine gtop (y := 0) v0 ?_
      refine gcV_iT (T := kT g hh none i1) (ws := kF g qX qM AX AC AD AP AW AY AK AM (eC d) (eC f) (eC ep) (eC n) (eC (pw mm d)) σW σY σK ℓK ℓM QQ (kV hh)) (As := [.int 0]) (rest := []) (ci := 7) (q := (RX7, TX7, 34)) F hK hN hP hD hS hA (m_X7_restore l g H.size qM AM (eC (pw mm d)) ℓM 0 (zI (-3)) (eC (pw mm d)) (m_restore_n0 mm d ℓM hO.xk0)) gL_law_X7_restore kX7_restore rfl rfl rfl rfl ⟨(Nat.le_of_ble_eq_true rfl), (Nat.le_of_ble_eq_true rfl)⟩ [32, 33, 34, 35, 36, 37, 38, 39, 40, 41, 42, 43, 44, 45, 46, 47, 48, 49, 50, 51, 52] [0, 1, 2, 3, 4, 5, 6, 7, 8, 9, 10, 11, 12, 13, 14, 15, 16, 17, 18, 19, 20, 21, 22, 23, 24, 25, 26, 27, 28, 29, 30, 31] rfl rfl rfl (by decide) rfl rfl rfl rfl rfl hl.1 (Nat.le_of_ble_eq_true rfl) dL_law_919 ⟨by have := hcR.1; omega, by have := hcR.2; omega⟩ (fun r_w u_w H locs hw hP hD hS => ?_)
      have hP : va_P g.1 vwCl ((kT g hh none i1) ++ (kF g qX qM AX AC AD AP AW AY AK AM (eC d) (eC f) (eC ep) (eC n) (eC (pw mm d)) σW σY σK ℓK ℓM QQ (kV hh))) H := hP
      have hD : va_D Z ((kT g hh none i1) ++ (kF g qX qM AX AC AD AP AW AY AK AM (eC d) (eC f) (eC ep) (eC n) (eC (pw mm d)) σW σY σK ℓK ℓM QQ (kV hh))) := hD
      obtain rfl := hw
      refine lv_pop hx hb dL_law_922 rfl ?_
      refine lv_goto (tgt := 949) hx hb dL_law_923 (by decide) ?_
      refine W.widen (k := cells + 8) (n := slots + 10240) (by omega) (by omega) ?_
      exact K d f ep n mm σW σY σK ℓK ℓM QQ hh none i1 hO H locs ls hP hD hS hl
    | some z =>
      obtain ⟨q1, A1, g1⟩ := z
      obtain ⟨n1, m1, k1⟩ := m_restore_i0 mm d ℓM hO.xk0.1 hO.xk0.2.1 hO.xr hO.xk0.2.2.2
      have hP : va_P g.1 vwCl ((tH g hh ++ tI g i1) ++ (wX1 g q1 A1 (eC g1) ++ kF g qX qM AX AC AD AP AW AY AK AM (eC d) (eC f) (eC ep) (eC n) (eC (pw mm d)) σW σY σK ℓK ℓM QQ (kV hh))) H := P_perm hP (pm_0 (tH g hh) (wX1 g q1 A1 (eC g1)) (tI g i1) _)
      have hD : va_D Z ((tH g hh ++ tI g i1) ++ (wX1 g q1 A1 (eC g1) ++ kF g qX qM AX AC AD AP AW AY AK AM (eC d) (eC f) (eC ep) (eC n) (eC (pw mm d)) σW σY σK ℓK ℓM QQ (kV hh))) := D_perm hD (pm_0 (tH g hh) (wX1 g q1 A1 (eC g1)) (tI g i1) _)
      refine lv_aload_n hx hb dL_law_903 rfl (lv_at hl 2 rfl) ?_
      refine lv_aload_n hx hb dL_law_904 rfl (lv_at hl 3 rfl) ?_
      refine lv_iload_n hx hb dL_law_905 rfl (lv_at hl 0 rfl) ?_
      refine lv_iconst (v := 1) hx hb dL_law_906 (by decide) ?_
      refine lv_iadd hx hb dL_law_907 ?_
      refine gtop (y := nI (i + 1)) (nI_adk i 1) ?_
      refine va_sld hx hb hX hbl hbA hS (vp_in_nI (n := i + 1) (by omega) (by omega)) dL_law_908 ?_
      refine gtop (y := 0) v0 ?_
      refine gcV_iT (T := (tH g hh ++ tI g i1)) (ws := (wX1 g q1 A1 (eC g1) ++ kF g qX qM AX AC AD AP AW AY AK AM (eC d) (eC f) (eC ep) (eC n) (eC (pw mm d)) σW σY σK ℓK ℓM QQ (kV hh))) (As := [.int 0]) (rest := []) (ci := 6) (q := (RX6, TX6, 8)) F hK hN hP hD hS hA (m_X6_restore_0s l g H.size qX AX QQ AC (eC d) q1 A1 (eC g1) hO.xq0 (zI 1) (eC g1) (x_restore_0s hO.xd hO.xk0.2.2.1)) gL_law_X6_restore kX6_restore rfl rfl rfl rfl ⟨(Nat.le_of_ble_eq_true rfl), (Nat.le_of_ble_eq_true rfl)⟩ [8, 25, 9, 10, 11, 12, 13, 14, 15, 16, 0, 1, 2, 3, 4, 5, 6, 7] [17, 18, 19, 20, 21, 22, 23, 24, 26, 27, 28, 29, 30, 31, 32, 33, 34, 35, 36, 37, 38, 39, 40, 41, 42, 43, 44, 45, 46, 47, 48, 49, 50, 51, 52, 53, 54, 55, 56, 57, 58, 59, 60] rfl rfl rfl (by decide) rfl rfl rfl rfl rfl hl.1 (Nat.le_of_ble_eq_true rfl) dL_law_909 ⟨by have := hcR.1; omega, by have := hcR.2; omega⟩ (fun r_w u_w H locs hw hP hD hS => ?_)
      have hP : va_P g.1 vwCl ((tH g hh ++ tI g i1) ++ (wX1 g q1 A1 (eC g1) ++ kF g qX qM AX AC AD AP AW AY AK AM (eC g1) (eC f) (eC ep) (eC n) (eC (pw mm d)) σW σY σK ℓK ℓM QQ (kV hh))) H := tP_sub hP [53, 54, 55, 56, 57, 58, 59, 60, 43, 45, 46, 47, 48, 49, 50, 51, 52, 0, 1, 2, 3, 4, 5, 6, 7, 44, 8, 9, 10, 11, 12, 13, 14, 15, 16, 17, 18, 19, 20, 21, 22, 23, 24, 25, 26, 27, 28, 29, 30, 31, 32, 33, 34, 35, 36, 37, 38, 39, 40, 41, 42] rfl
      have hD : va_D Z ((tH g hh ++ tI g i1) ++ (wX1 g q1 A1 (eC g1) ++ kF g qX qM AX AC AD AP AW AY AK AM (eC g1) (eC f) (eC ep) (eC n) (eC (pw mm d)) σW σY σK ℓK ℓM QQ (kV hh))) := tD_sub hD [53, 54, 55, 56, 57, 58, 59, 60, 43, 45, 46, 47, 48, 49, 50, 51, 52, 0, 1, 2, 3, 4, 5, 6, 7, 44, 8, 9, 10, 11, 12, 13, 14, 15, 16, 17, 18, 19, 20, 21, 22, 23, 24, 25, 26, 27, 28, 29, 30, 31, 32, 33, 34, 35, 36, 37, 38, 39, 40, 41, 42] (by decide) rfl
      obtain rfl := hw
      have hP : va_P g.1 vwCl ((kT g hh (some (q1, A1, g1)) i1) ++ (kF g qX qM AX AC AD AP AW AY AK AM (eC g1) (eC f) (eC ep) (eC n) (eC (pw mm d)) σW σY σK ℓK ℓM QQ (kV hh))) H := P_perm hP (pm_0 (tH g hh) (wX1 g q1 A1 (eC g1)) (tI g i1) _).symm
      have hD : va_D Z ((kT g hh (some (q1, A1, g1)) i1) ++ (kF g qX qM AX AC AD AP AW AY AK AM (eC g1) (eC f) (eC ep) (eC n) (eC (pw mm d)) σW σY σK ℓK ℓM QQ (kV hh))) := D_perm hD (pm_0 (tH g hh) (wX1 g q1 A1 (eC g1)) (tI g i1) _).symm
      refine lv_pop hx hb dL_law_912 rfl ?_
      refine lv_aload_n hx hb dL_law_913 rfl (lv_at hl 1 rfl) ?_
      refine lv_aload_n hx hb dL_law_914 rfl (lv_at hl 3 rfl) ?_
      refine lv_iload_n hx hb dL_law_915 rfl (lv_at hl 0 rfl) ?_
      refine lv_iconst (v := 1) hx hb dL_law_916 (by decide) ?_
      refine lv_iadd hx hb dL_law_917 ?_
      refine gtop (y := nI (i + 1)) (nI_adk i 1) ?_
      refine va_sld hx hb hX hbl hbA hS (vp_in_nI (n := i + 1) (by omega) (by omega)) dL_law_918 ?_
      refine gtop (y := 0) v0 ?_
      refine gcV_iT (T := kT g hh (some (q1, A1, g1)) i1) (ws := kF g qX qM AX AC AD AP AW AY AK AM (eC g1) (eC f) (eC ep) (eC n) (eC (pw mm d)) σW σY σK ℓK ℓM QQ (kV hh)) (As := [.int 0]) (rest := []) (ci := 7) (q := (RX7, TX7, 34)) F hK hN hP hD hS hA (m_X7_restore l g H.size qM AM (eC (pw mm d)) ℓM 0 (zI 1) (eC (pw n1 g1)) m1) gL_law_X7_restore kX7_restore rfl rfl rfl rfl ⟨(Nat.le_of_ble_eq_true rfl), (Nat.le_of_ble_eq_true rfl)⟩ [32, 33, 34, 35, 36, 37, 38, 39, 40, 41, 42, 43, 44, 45, 46, 47, 48, 49, 50, 51, 52] [0, 1, 2, 3, 4, 5, 6, 7, 8, 9, 10, 11, 12, 13, 14, 15, 16, 17, 18, 19, 20, 21, 22, 23, 24, 25, 26, 27, 28, 29, 30, 31] rfl rfl rfl (by decide) rfl rfl rfl rfl rfl hl.1 (Nat.le_of_ble_eq_true rfl) dL_law_919 ⟨by have := hcR.1; omega, by have := hcR.2; omega⟩ (fun r_w u_w H locs hw hP hD hS => ?_)
      have hP : va_P g.1 vwCl ((kT g hh (some (q1, A1, g1)) i1) ++ (kF g qX qM AX AC AD AP AW AY AK AM (eC g1) (eC f) (eC ep) (eC n) (eC (pw n1 g1)) σW σY σK ℓK ℓM QQ (kV hh))) H := hP
      have hD : va_D Z ((kT g hh (some (q1, A1, g1)) i1) ++ (kF g qX qM AX AC AD AP AW AY AK AM (eC g1) (eC f) (eC ep) (eC n) (eC (pw n1 g1)) σW σY σK ℓK ℓM QQ (kV hh))) := hD
      obtain rfl := hw
      refine lv_pop hx hb dL_law_922 rfl ?_
      refine lv_goto (tgt := 949) hx hb dL_law_923 (by decide) ?_
      refine W.widen (k := cells + 8) (n := slots + 10240) (by omega) (by omega) ?_
      exact K g1 f ep n n1 σW σY σK ℓK ℓM QQ hh (some (q1, A1, g1)) i1 (hO.rs hO.xk0.2.2.1 hO.xk0.2.2.2 k1) H locs ls hP hD hS hl
  by_cases v1 : xs (nI (i + 1)).toNatClampNeg = 1
  · cases i1 with
    | none =>
      refine lv_aload_n hx hb dL_law_903 rfl (lv_at hl 2 rfl) ?_
      refine lv_aload_n hx hb dL_law_904 rfl (lv_at hl 3 rfl) ?_
      refine lv_iload_n hx hb dL_law_905 rfl (lv_at hl 0 rfl) ?_
      refine lv_iconst (v := 1) hx hb dL_law_906 (by decide) ?_
      refine lv_iadd hx hb dL_law_907 ?_
      refine gtop (y := nI (i + 1)) (nI_adk i 1) ?_
      refine va_sld hx hb hX hbl hbA hS (vp_in_nI (n := i + 1) (by omega) (by omega)) dL_law_908 ?_
      refine gtop (y := 1) v1 ?_
      refine gcV_iT (T := kT g hh i0 none) (ws := kF g qX qM AX AC AD AP AW AY AK AM (eC d) (eC f) (eC ep) (eC n) (eC (pw mm d)) σW σY σK ℓK ℓM QQ (kV hh)) (As := [.int 1]) (rest := []) (ci := 6) (q := (RX6, TX6, 8)) F hK hN hP hD hS hA (m_X6_restore_1n l g H.size qX AX QQ hO.xq1 (zI (-3)) x_restore_1n) gL_law_X6_restore kX6_restore rfl rfl rfl rfl ⟨(Nat.le_of_ble_eq_true rfl), (Nat.le_of_ble_eq_true rfl)⟩ [0, 17] [1, 2, 3, 4, 5, 6, 7, 8, 9, 10, 11, 12, 13, 14, 15, 16, 18, 19, 20, 21, 22, 23, 24, 25, 26, 27, 28, 29, 30, 31, 32, 33, 34, 35, 36, 37, 38, 39, 40, 41, 42, 43, 44, 45, 46, 47, 48, 49, 50, 51, 52] rfl rfl rfl (by decide) rfl rfl rfl rfl rfl hl.1 (Nat.le_of_ble_eq_true rfl) dL_law_909 ⟨by have := hcR.1; omega, by have := hcR.2; omega⟩ (fun r_w u_w H locs hw hP hD hS => ?_)
      have hP : va_P g.1 vwCl ((kT g hh i0 none) ++ (kF g qX qM AX AC AD AP AW AY AK AM (eC d) (eC f) (eC ep) (eC n) (eC (pw mm d)) σW σY σK ℓK ℓM QQ (kV hh))) H := tP_sub hP [51, 0, 1, 2, 3, 4, 5, 6, 7, 8, 9, 10, 11, 12, 13, 14, 15, 52, 16, 17, 18, 19, 20, 21, 22, 23, 24, 25, 26, 27, 28, 29, 30, 31, 32, 33, 34, 35, 36, 37, 38, 39, 40, 41, 42, 43, 44, 45, 46, 47, 48, 49, 50] rfl
      have hD : va_D Z ((kT g hh i0 none) ++ (kF g qX qM AX AC AD AP AW AY AK AM (eC d) (eC f) (eC ep) (eC n) (eC (pw mm d)) σW σY σK ℓK ℓM QQ (kV hh))) := tD_sub hD [51, 0, 1, 2, 3, 4, 5, 6, 7, 8, 9, 10, 11, 12, 13, 14, 15, 52, 16, 17, 18, 19, 20, 21, 22, 23, 24, 25, 26, 27, 28, 29, 30, 31, 32, 33, 34, 35, 36, 37, 38, 39, 40, 41, 42, 43, 44, 45, 46, 47, 48, 49, 50] (by decide) rfl
      obtain rfl := hw
      refine lv_pop hx hb dL_law_912 rfl ?_
      refine lv_aload_n hx hb dL_law_913 rfl (lv_at hl 1 rfl) ?_
      refine lv_aload_n hx hb dL_law_914 rfl (lv_at hl 3 rfl) ?_
      refine lv_iload_n hx hb dL_law_915 rfl (lv_at hl 0 rfl) ?_
      refine lv_iconst (v := 1) hx hb dL_law_916 (by decide) ?_
      refine lv_iadd hx hb dL_law_917 ?_
      refine gtop (y := nI (i + 1)) (nI_adk i 1) ?_
      refine va_sld hx hb hX hbl hbA hS (vp_in_nI (n := i + 1) (by omega) (by omega)) dL_law_918 ?_
      refine gtop (y := 1) v1 ?_
      refine gcV_iT (T := kT g hh i0 none) (ws := kF g qX qM AX AC AD AP AW AY AK AM (eC d) (eC f) (eC ep) (eC n) (eC (pw mm d)) σW σY σK ℓK ℓM QQ (kV hh)) (As := [.int 1]) (rest := []) (ci := 7) (q := (RX7, TX7, 34)) F hK hN hP hD hS hA (m_X7_restore l g H.size qM AM (eC (pw mm d)) ℓM 1 (zI (-3)) (eC (pw mm d)) (m_restore_n1 mm d ℓM hO.xk1)) gL_law_X7_restore kX7_restore rfl rfl rfl rfl ⟨(Nat.le_of_ble_eq_true rfl), (Nat.le_of_ble_eq_true rfl)⟩ [32, 33, 34, 35, 36, 37, 38, 39, 40, 41, 42, 43, 44, 45, 46, 47, 48, 49, 50, 51, 52] [0, 1, 2, 3, 4, 5, 6, 7, 8, 9, 10, 11, 12, 13, 14, 15, 16, 17, 18, 19, 20, 21, 22, 23, 24, 25, 26, 27, 28, 29, 30, 31] rfl rfl rfl (by decide) rfl rfl rfl rfl rfl hl.1 (Nat.le_of_ble_eq_true rfl) dL_law_919 ⟨by have := hcR.1; omega, by have := hcR.2; omega⟩ (fun r_w u_w H locs hw hP hD hS => ?_)
      have hP : va_P g.1 vwCl ((kT g hh i0 none) ++ (kF g qX qM AX AC AD AP AW AY AK AM (eC d) (eC f) (eC ep) (eC n) (eC (pw mm d)) σW σY σK ℓK ℓM QQ (kV hh))) H := hP
      have hD : va_D Z ((kT g hh i0 none) ++ (kF g qX qM AX AC AD AP AW AY AK AM (eC d) (eC f) (eC ep) (eC n) (eC (pw mm d)) σW σY σK ℓK ℓM QQ (kV hh))) := hD
      obtain rfl := hw
      refine lv_pop hx hb dL_law_922 rfl ?_
      refine lv_goto (tgt := 949) hx hb dL_law_923 (by decide) ?_
      refine W.widen (k := cells + 8) (n := slots + 10240) (by omega) (by omega) ?_
      exact K d f ep n mm σW σY σK ℓK ℓM QQ hh i0 none hO H locs ls hP hD hS hl
    | some z =>
      obtain ⟨q1, A1, g1⟩ := z
      obtain ⟨n1, m1, k1⟩ := m_restore_i1 mm d ℓM hO.xk1.1 hO.xk1.2.1 hO.xr hO.xk1.2.2.2
      have hP : va_P g.1 vwCl ((tH g hh ++ tI g i0) ++ (wX1 g q1 A1 (eC g1) ++ kF g qX qM AX AC AD AP AW AY AK AM (eC d) (eC f) (eC ep) (eC n) (eC (pw mm d)) σW σY σK ℓK ℓM QQ (kV hh))) H := P_perm hP (pm_1 (tH g hh) (tI g i0) (wX1 g q1 A1 (eC g1)) _)
      have hD : va_D Z ((tH g hh ++ tI g i0) ++ (wX1 g q1 A1 (eC g1) ++ kF g qX qM AX AC AD AP AW AY AK AM (eC d) (eC f) (eC ep) (eC n) (eC (pw mm d)) σW σY σK ℓK ℓM QQ (kV hh))) := D_perm hD (pm_1 (tH g hh) (tI g i0) (wX1 g q1 A1 (eC g1)) _)
      refine lv_aload_n hx hb dL_law_903 rfl (lv_at hl 2 rfl) ?_
      refine lv_aload_n hx hb dL_law_904 rfl (lv_at hl 3 rfl) ?_
      refine lv_iload_n hx hb dL_law_905 rfl (lv_at hl 0 rfl) ?_
      refine lv_iconst (v := 1) hx hb dL_law_906 (by decide) ?_
      refine lv_iadd hx hb dL_law_907 ?_
      refine gtop (y := nI (i + 1)) (nI_adk i 1) ?_
      refine va_sld hx hb hX hbl hbA hS (vp_in_nI (n := i + 1) (by omega) (by omega)) dL_law_908 ?_
      refine gtop (y := 1) v1 ?_
      refine gcV_iT (T := (tH g hh ++ tI g i0)) (ws := (wX1 g q1 A1 (eC g1) ++ kF g qX qM AX AC AD AP AW AY AK AM (eC d) (eC f) (eC ep) (eC n) (eC (pw mm d)) σW σY σK ℓK ℓM QQ (kV hh))) (As := [.int 1]) (rest := []) (ci := 6) (q := (RX6, TX6, 8)) F hK hN hP hD hS hA (m_X6_restore_1s l g H.size qX AX QQ AC (eC d) q1 A1 (eC g1) hO.xq1 (zI 1) (eC g1) (x_restore_1s hO.xd hO.xk1.2.2.1)) gL_law_X6_restore kX6_restore rfl rfl rfl rfl ⟨(Nat.le_of_ble_eq_true rfl), (Nat.le_of_ble_eq_true rfl)⟩ [8, 25, 9, 10, 11, 12, 13, 14, 15, 16, 0, 1, 2, 3, 4, 5, 6, 7] [17, 18, 19, 20, 21, 22, 23, 24, 26, 27, 28, 29, 30, 31, 32, 33, 34, 35, 36, 37, 38, 39, 40, 41, 42, 43, 44, 45, 46, 47, 48, 49, 50, 51, 52, 53, 54, 55, 56, 57, 58, 59, 60] rfl rfl rfl (by decide) rfl rfl rfl rfl rfl hl.1 (Nat.le_of_ble_eq_true rfl) dL_law_909 ⟨by have := hcR.1; omega, by have := hcR.2; omega⟩ (fun r_w u_w H locs hw hP hD hS => ?_)
      have hP : va_P g.1 vwCl ((tH g hh ++ tI g i0) ++ (wX1 g q1 A1 (eC g1) ++ kF g qX qM AX AC AD AP AW AY AK AM (eC g1) (eC f) (eC ep) (eC n) (eC (pw mm d)) σW σY σK ℓK ℓM QQ (kV hh))) H := tP_sub hP [53, 54, 55, 56, 57, 58, 59, 60, 43, 45, 46, 47, 48, 49, 50, 51, 52, 0, 1, 2, 3, 4, 5, 6, 7, 44, 8, 9, 10, 11, 12, 13, 14, 15, 16, 17, 18, 19, 20, 21, 22, 23, 24, 25, 26, 27, 28, 29, 30, 31, 32, 33, 34, 35, 36, 37, 38, 39, 40, 41, 42] rfl
      have hD : va_D Z ((tH g hh ++ tI g i0) ++ (wX1 g q1 A1 (eC g1) ++ kF g qX qM AX AC AD AP AW AY AK AM (eC g1) (eC f) (eC ep) (eC n) (eC (pw mm d)) σW σY σK ℓK ℓM QQ (kV hh))) := tD_sub hD [53, 54, 55, 56, 57, 58, 59, 60, 43, 45, 46, 47, 48, 49, 50, 51, 52, 0, 1, 2, 3, 4, 5, 6, 7, 44, 8, 9, 10, 11, 12, 13, 14, 15, 16, 17, 18, 19, 20, 21, 22, 23, 24, 25, 26, 27, 28, 29, 30, 31, 32, 33, 34, 35, 36, 37, 38, 39, 40, 41, 42] (by decide) rfl
      obtain rfl := hw
      have hP : va_P g.1 vwCl ((kT g hh i0 (some (q1, A1, g1))) ++ (kF g qX qM AX AC AD AP AW AY AK AM (eC g1) (eC f) (eC ep) (eC n) (eC (pw mm d)) σW σY σK ℓK ℓM QQ (kV hh))) H := P_perm hP (pm_1 (tH g hh) (tI g i0) (wX1 g q1 A1 (eC g1)) _).symm
      have hD : va_D Z ((kT g hh i0 (some (q1, A1, g1))) ++ (kF g qX qM AX AC AD AP AW AY AK AM (eC g1) (eC f) (eC ep) (eC n) (eC (pw mm d)) σW σY σK ℓK ℓM QQ (kV hh))) := D_perm hD (pm_1 (tH g hh) (tI g i0) (wX1 g q1 A1 (eC g1)) _).symm
      refine lv_pop hx hb dL_law_912 rfl ?_
      refine lv_aload_n hx hb dL_law_913 rfl (lv_at hl 1 rfl) ?_
      refine lv_aload_n hx hb dL_law_914 rfl (lv_at hl 3 rfl) ?_
      refine lv_iload_n hx hb dL_law_915 rfl (lv_at hl 0 rfl) ?_
      refine lv_iconst (v := 1) hx hb dL_law_916 (by decide) ?_
      refine lv_iadd hx hb dL_law_917 ?_
      refine gtop (y := nI (i + 1)) (nI_adk i 1) ?_
      refine va_sld hx hb hX hbl hbA hS (vp_in_nI (n := i + 1) (by omega) (by omega)) dL_law_918 ?_
      refine gtop (y := 1) v1 ?_
      refine gcV_iT (T := kT g hh i0 (some (q1, A1, g1))) (ws := kF g qX qM AX AC AD AP AW AY AK AM (eC g1) (eC f) (eC ep) (eC n) (eC (pw mm d)) σW σY σK ℓK ℓM QQ (kV hh)) (As := [.int 1]) (rest := []) (ci := 7) (q := (RX7, TX7, 34)) F hK hN hP hD hS hA (m_X7_restore l g H.size qM AM (eC (pw mm d)) ℓM 1 (zI 1) (eC (pw n1 g1)) m1) gL_law_X7_restore kX7_restore rfl rfl rfl rfl ⟨(Nat.le_of_ble_eq_true rfl), (Nat.le_of_ble_eq_true rfl)⟩ [32, 33, 34, 35, 36, 37, 38, 39, 40, 41, 42, 43, 44, 45, 46, 47, 48, 49, 50, 51, 52] [0, 1, 2, 3, 4, 5, 6, 7, 8, 9, 10, 11, 12, 13, 14, 15, 16, 17, 18, 19, 20, 21, 22, 23, 24, 25, 26, 27, 28, 29, 30, 31] rfl rfl rfl (by decide) rfl rfl rfl rfl rfl hl.1 (Nat.le_of_ble_eq_true rfl) dL_law_919 ⟨by have := hcR.1; omega, by have := hcR.2; omega⟩ (fun r_w u_w H locs hw hP hD hS => ?_)
      have hP : va_P g.1 vwCl ((kT g hh i0 (some (q1, A1, g1))) ++ (kF g qX qM AX AC AD AP AW AY AK AM (eC g1) (eC f) (eC ep) (eC n) (eC (pw n1 g1)) σW σY σK ℓK ℓM QQ (kV hh))) H := hP
      have hD : va_D Z ((kT g hh i0 (some (q1, A1, g1))) ++ (kF g qX qM AX AC AD AP AW AY AK AM (eC g1) (eC f) (eC ep) (eC n) (eC (pw n1 g1)) σW σY σK ℓK ℓM QQ (kV hh))) := hD
      obtain rfl := hw
      refine lv_pop hx hb dL_law_922 rfl ?_
      refine lv_goto (tgt := 949) hx hb dL_law_923 (by decide) ?_
      refine W.widen (k := cells + 8) (n := slots + 10240) (by omega) (by omega) ?_
      exact K g1 f ep n n1 σW σY σK ℓK ℓM QQ hh i0 (some (q1, A1, g1)) (hO.rs hO.xk1.2.2.1 hO.xk1.2.2.2 k1) H locs ls hP hD hS hl
  obtain ⟨x1, m1⟩ := c_restore_x mm d ℓM v0 v1
  refine lv_aload_n hx hb dL_law_903 rfl (lv_at hl 2 rfl) ?_
  refine lv_aload_n hx hb dL_law_904 rfl (lv_at hl 3 rfl) ?_
  refine lv_iload_n hx hb dL_law_905 rfl (lv_at hl 0 rfl) ?_
  refine lv_iconst (v := 1) hx hb dL_law_906 (by decide) ?_
  refine lv_iadd hx hb dL_law_907 ?_
  refine gtop (y := nI (i + 1)) (nI_adk i 1) ?_
  refine va_sld hx hb hX hbl hbA hS (vp_in_nI (n := i + 1) (by omega) (by omega)) dL_law_908 ?_
  refine gcV_iT (T := kT g hh i0 i1) (ws := kF g qX qM AX AC AD AP AW AY AK AM (eC d) (eC f) (eC ep) (eC n) (eC (pw mm d)) σW σY σK ℓK ℓM QQ (kV hh)) (As := [.int (xs (nI (i + 1)).toNatClampNeg)]) (rest := []) (ci := 6) (q := (RX6, TX6, 8)) F hK hN hP hD hS hA (m_X6_restore_x l g H.size qX AX QQ (xs (nI (i + 1)).toNatClampNeg) (zI (-2)) x1) gL_law_X6_restore kX6_restore rfl rfl rfl rfl ⟨(Nat.le_of_ble_eq_true rfl), (Nat.le_of_ble_eq_true rfl)⟩ [0, 17] [1, 2, 3, 4, 5, 6, 7, 8, 9, 10, 11, 12, 13, 14, 15, 16, 18, 19, 20, 21, 22, 23, 24, 25, 26, 27, 28, 29, 30, 31, 32, 33, 34, 35, 36, 37, 38, 39, 40, 41, 42, 43, 44, 45, 46, 47, 48, 49, 50, 51, 52] rfl rfl rfl (by decide) rfl rfl rfl rfl rfl hl.1 (Nat.le_of_ble_eq_true rfl) dL_law_909 ⟨by have := hcR.1; omega, by have := hcR.2; omega⟩ (fun r_w u_w H locs hw hP hD hS => ?_)
  have hP : va_P g.1 vwCl ((kT g hh i0 i1) ++ (kF g qX qM AX AC AD AP AW AY AK AM (eC d) (eC f) (eC ep) (eC n) (eC (pw mm d)) σW σY σK ℓK ℓM QQ (kV hh))) H := tP_sub hP [51, 0, 1, 2, 3, 4, 5, 6, 7, 8, 9, 10, 11, 12, 13, 14, 15, 52, 16, 17, 18, 19, 20, 21, 22, 23, 24, 25, 26, 27, 28, 29, 30, 31, 32, 33, 34, 35, 36, 37, 38, 39, 40, 41, 42, 43, 44, 45, 46, 47, 48, 49, 50] rfl
  have hD : va_D Z ((kT g hh i0 i1) ++ (kF g qX qM AX AC AD AP AW AY AK AM (eC d) (eC f) (eC ep) (eC n) (eC (pw mm d)) σW σY σK ℓK ℓM QQ (kV hh))) := tD_sub hD [51, 0, 1, 2, 3, 4, 5, 6, 7, 8, 9, 10, 11, 12, 13, 14, 15, 52, 16, 17, 18, 19, 20, 21, 22, 23, 24, 25, 26, 27, 28, 29, 30, 31, 32, 33, 34, 35, 36, 37, 38, 39, 40, 41, 42, 43, 44, 45, 46, 47, 48, 49, 50] (by decide) rfl
  obtain rfl := hw
  refine lv_pop hx hb dL_law_912 rfl ?_
  refine lv_aload_n hx hb dL_law_913 rfl (lv_at hl 1 rfl) ?_
  refine lv_aload_n hx hb dL_law_914 rfl (lv_at hl 3 rfl) ?_
  refine lv_iload_n hx hb dL_law_915 rfl (lv_at hl 0 rfl) ?_
  refine lv_iconst (v := 1) hx hb dL_law_916 (by decide) ?_
  refine lv_iadd hx hb dL_law_917 ?_
  refine gtop (y := nI (i + 1)) (nI_adk i 1) ?_
  refine va_sld hx hb hX hbl hbA hS (vp_in_nI (n := i + 1) (by omega) (by omega)) dL_law_918 ?_
  refine gcV_iT (T := kT g hh i0 i1) (ws := kF g qX qM AX AC AD AP AW AY AK AM (eC d) (eC f) (eC ep) (eC n) (eC (pw mm d)) σW σY σK ℓK ℓM QQ (kV hh)) (As := [.int (xs (nI (i + 1)).toNatClampNeg)]) (rest := []) (ci := 7) (q := (RX7, TX7, 34)) F hK hN hP hD hS hA (m_X7_restore l g H.size qM AM (eC (pw mm d)) ℓM (xs (nI (i + 1)).toNatClampNeg) (zI (-2)) (eC (pw mm d)) m1) gL_law_X7_restore kX7_restore rfl rfl rfl rfl ⟨(Nat.le_of_ble_eq_true rfl), (Nat.le_of_ble_eq_true rfl)⟩ [32, 33, 34, 35, 36, 37, 38, 39, 40, 41, 42, 43, 44, 45, 46, 47, 48, 49, 50, 51, 52] [0, 1, 2, 3, 4, 5, 6, 7, 8, 9, 10, 11, 12, 13, 14, 15, 16, 17, 18, 19, 20, 21, 22, 23, 24, 25, 26, 27, 28, 29, 30, 31] rfl rfl rfl (by decide) rfl rfl rfl rfl rfl hl.1 (Nat.le_of_ble_eq_true rfl) dL_law_919 ⟨by have := hcR.1; omega, by have := hcR.2; omega⟩ (fun r_w u_w H locs hw hP hD hS => ?_)
  have hP : va_P g.1 vwCl ((kT g hh i0 i1) ++ (kF g qX qM AX AC AD AP AW AY AK AM (eC d) (eC f) (eC ep) (eC n) (eC (pw mm d)) σW σY σK ℓK ℓM QQ (kV hh))) H := hP
  have hD : va_D Z ((kT g hh i0 i1) ++ (kF g qX qM AX AC AD AP AW AY AK AM (eC d) (eC f) (eC ep) (eC n) (eC (pw mm d)) σW σY σK ℓK ℓM QQ (kV hh))) := hD
  obtain rfl := hw
  refine lv_pop hx hb dL_law_922 rfl ?_
  refine lv_goto (tgt := 949) hx hb dL_law_923 (by decide) ?_
  refine W.widen (k := cells + 8) (n := slots + 10240) (by omega) (by omega) ?_
  exact K d f ep n mm σW σY σK ℓK ℓM QQ hh i0 i1 hO H locs ls hP hD hS hl
set_option maxHeartbeats 8000000 in
set_option maxRecDepth 100000 in
theorem ws_926 {p : Program} {l : Launch} {e : Env} {s : State} {m : MethodId} {below : List Frame} {meth : Method} {c : Code} {b L : Nat} {xs : Nat → Int32} {g : GT} {Z : Nat → Prop} {H : Heap} {locs : List Loc} {ls : Array Slot} {qX qM : Nat} {AX AC AD AP AW AY AK AM : Nat → Nat} {i cells slots : Nat} {d f ep n mm : Nat → Int → Int} {σW σY σK : qS} {ℓK ℓM : qL} {QQ : Nat → Option Nat} {hh : Option (Nat × qS)} {i0 i1 : Option (Nat × (Nat → Nat) × (Nat → Int → Int))}
    (hx : p.tables.exec = Jvm.exec) (hb : c.code = cL_law) (F : CallFix p m c cL_law 4 s #[Value.ref b] wsL_law RL) (hK : va_K g.1 vwCl (tyL g) s) (hN : NW s) (hA : ∀ q : Nat, s.heap.size ≤ q → Z q) (hbA : ¬ Z b) (hX : va_X b L xs s s.heap) (hbl : b < s.heap.size) (hi : i + 7 ≤ L) (hL : L ≤ 3584) (hcR : cells + 8 ≤ room_1.cells ∧ slots + 10240 ≤ room_1.slots)
    (K : lw_C p l e s m below meth c b g Z qX qM AX AC AD AP AW AY AK AM i (cells + 8) (slots + 10240) 949) (hO : kO d f ep mm QQ i0 i1) (hP : va_P g.1 vwCl (kT g hh i0 i1 ++ kF g qX qM AX AC AD AP AW AY AK AM (eC d) (eC f) (eC ep) (eC n) (eC (pw mm d)) σW σY σK ℓK ℓM QQ (kV hh)) H) (hD : va_D Z (kT g hh i0 i1 ++ kF g qX qM AX AC AD AP AW AY AK AM (eC d) (eC f) (eC ep) (eC n) (eC (pw mm d)) σW σY σK ℓK ℓM QQ (kV hh))) (hS : va_S Z s.heap H locs) (hl : lv_has ls 4 [(3, .int (nI i)), (2, .ref qM), (1, .ref qX), (0, .ref b)]) : W p l e room_1 s m #[Value.ref b] below meth c H locs cells slots (lw_Z below #[Value.ref b] s) (F0 m 926 ls []) := by
  obtain ⟨r1, x1, -⟩ := e_told (e := ep) hO.xd (xs (nI (i + 1)).toNatClampNeg)
  obtain ⟨r2, m1, -⟩ := v_told (m := mm) (d := d) (τ := ℓM) (xs (nI (i + 1)).toNatClampNeg)
  refine lv_aload_n hx hb dL_law_926 rfl (lv_at hl 2 rfl) ?_
  refine lv_aload_n hx hb dL_law_927 rfl (lv_at hl 3 rfl) ?_
  refine lv_iload_n hx hb dL_law_928 rfl (lv_at hl 0 rfl) ?_
  refine lv_iconst (v := 1) hx hb dL_law_929 (by decide) ?_
  refine lv_iadd hx hb dL_law_930 ?_
  refine gtop (y := nI (i + 1)) (nI_adk i 1) ?_
  refine va_sld hx hb hX hbl hbA hS (vp_in_nI (n := i + 1) (by omega) (by omega)) dL_law_931 ?_
  refine gcV_iT (T := kT g hh i0 i1) (ws := kF g qX qM AX AC AD AP AW AY AK AM (eC d) (eC f) (eC ep) (eC n) (eC (pw mm d)) σW σY σK ℓK ℓM QQ (kV hh)) (As := [.int (xs (nI (i + 1)).toNatClampNeg)]) (rest := []) (ci := 6) (q := (RX6, TX6, 8)) F hK hN hP hD hS hA (m_X6_told l g H.size qX AX AP (eC ep) AC (eC d) (xs (nI (i + 1)).toNatClampNeg) r1 x1) gL_law_X6_told kX6_told rfl rfl rfl rfl ⟨(Nat.le_of_ble_eq_true rfl), (Nat.le_of_ble_eq_true rfl)⟩ [0, 18, 19, 1, 2, 3, 4, 5, 6, 7, 8] [9, 10, 11, 12, 13, 14, 15, 16, 17, 20, 21, 22, 23, 24, 25, 26, 27, 28, 29, 30, 31, 32, 33, 34, 35, 36, 37, 38, 39, 40, 41, 42, 43, 44, 45, 46, 47, 48, 49, 50, 51, 52] rfl rfl rfl (by decide) rfl rfl rfl rfl rfl hl.1 (Nat.le_of_ble_eq_true rfl) dL_law_932 ⟨by have := hcR.1; omega, by have := hcR.2; omega⟩ (fun r_w u_w H locs hw hP hD hS => ?_)
  have hP : va_P g.1 vwCl ((kT g hh i0 i1) ++ (kF g qX qM AX AC AD AP AW AY AK AM (eC d) (eC f) (eC ep) (eC n) (eC (pw mm d)) σW σY σK ℓK ℓM QQ (kV hh))) H := tP_sub hP [42, 45, 46, 47, 48, 49, 50, 51, 52, 0, 1, 2, 3, 4, 5, 6, 7, 8, 43, 44, 9, 10, 11, 12, 13, 14, 15, 16, 17, 18, 19, 20, 21, 22, 23, 24, 25, 26, 27, 28, 29, 30, 31, 32, 33, 34, 35, 36, 37, 38, 39, 40, 41] rfl
  have hD : va_D Z ((kT g hh i0 i1) ++ (kF g qX qM AX AC AD AP AW AY AK AM (eC d) (eC f) (eC ep) (eC n) (eC (pw mm d)) σW σY σK ℓK ℓM QQ (kV hh))) := tD_sub hD [42, 45, 46, 47, 48, 49, 50, 51, 52, 0, 1, 2, 3, 4, 5, 6, 7, 8, 43, 44, 9, 10, 11, 12, 13, 14, 15, 16, 17, 18, 19, 20, 21, 22, 23, 24, 25, 26, 27, 28, 29, 30, 31, 32, 33, 34, 35, 36, 37, 38, 39, 40, 41] (by decide) rfl
  obtain rfl := hw
  refine lv_pop hx hb dL_law_935 rfl ?_
  refine lv_aload_n hx hb dL_law_936 rfl (lv_at hl 1 rfl) ?_
  refine lv_aload_n hx hb dL_law_937 rfl (lv_at hl 3 rfl) ?_
  refine lv_iload_n hx hb dL_law_938 rfl (lv_at hl 0 rfl) ?_
  refine lv_iconst (v := 1) hx hb dL_law_939 (by decide) ?_
  refine lv_iadd hx hb dL_law_940 ?_
  refine gtop (y := nI (i + 1)) (nI_adk i 1) ?_
  refine va_sld hx hb hX hbl hbA hS (vp_in_nI (n := i + 1) (by omega) (by omega)) dL_law_941 ?_
  refine gcV_iT (T := kT g hh i0 i1) (ws := kF g qX qM AX AC AD AP AW AY AK AM (eC d) (eC f) (eC ep) (eC n) (eC (pw mm d)) σW σY σK ℓK ℓM QQ (kV hh)) (As := [.int (xs (nI (i + 1)).toNatClampNeg)]) (rest := []) (ci := 7) (q := (RX7, TX7, 34)) F hK hN hP hD hS hA (m_X7_told l g H.size qM AM (eC (pw mm d)) ℓM (xs (nI (i + 1)).toNatClampNeg) r2 m1) gL_law_X7_told kX7_told rfl rfl rfl rfl ⟨(Nat.le_of_ble_eq_true rfl), (Nat.le_of_ble_eq_true rfl)⟩ [32, 33, 34, 35, 36, 37, 38, 39, 40, 41, 42, 43, 44, 45, 46, 47, 48, 49, 50, 51, 52] [0, 1, 2, 3, 4, 5, 6, 7, 8, 9, 10, 11, 12, 13, 14, 15, 16, 17, 18, 19, 20, 21, 22, 23, 24, 25, 26, 27, 28, 29, 30, 31] rfl rfl rfl (by decide) rfl rfl rfl rfl rfl hl.1 (Nat.le_of_ble_eq_true rfl) dL_law_942 ⟨by have := hcR.1; omega, by have := hcR.2; omega⟩ (fun r_w u_w H locs hw hP hD hS => ?_)
  have hP : va_P g.1 vwCl ((kT g hh i0 i1) ++ (kF g qX qM AX AC AD AP AW AY AK AM (eC d) (eC f) (eC ep) (eC n) (eC (pw mm d)) σW σY σK ℓK ℓM QQ (kV hh))) H := hP
  have hD : va_D Z ((kT g hh i0 i1) ++ (kF g qX qM AX AC AD AP AW AY AK AM (eC d) (eC f) (eC ep) (eC n) (eC (pw mm d)) σW σY σK ℓK ℓM QQ (kV hh))) := hD
  obtain rfl := hw
  refine lv_pop hx hb dL_law_945 rfl ?_
  refine lv_goto (tgt := 949) hx hb dL_law_946 (by decide) ?_
  refine W.widen (k := cells + 8) (n := slots + 10240) (by omega) (by omega) ?_
  exact K d f ep n mm σW σY σK ℓK ℓM QQ hh i0 i1 hO H locs ls hP hD hS hl
