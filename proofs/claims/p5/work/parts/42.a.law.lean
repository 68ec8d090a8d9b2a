theorem lw_head {p : Program} {l : Launch} {e : Env} {s : State} {m : MethodId} {below : List Frame} {meth : Method} {c : Code} {b L : Nat} {xs : Nat → Int32} {Z : Nat → Prop} {H : Heap} {locs : List Loc} {ls : Array Slot} {qX qM : Nat} {i cells slots : Nat}
    (hx : p.tables.exec = Jvm.exec) (hb : c.code = cL_law) (hr : meth.sig.returnType = ret) (hlocks : meth.locks = false) (hZ : Z = fun q => s.heap.size ≤ q) (hbA : ¬ Z b) (hX : va_X b L xs s s.heap) (hbl : b < s.heap.size) (hi : i < 100000) (hL : L ≤ 3584) (hc : cells ≤ 600000) (hs : slots ≤ 7302250) (hS : va_S Z s.heap H locs) (hl : lv_has ls 4 [(3, .int (nI i)), (2, .ref qM), (1, .ref qX), (0, .ref b)])
    (kk : i + 7 ≤ L → W p l e room_1 s m #[Value.ref b] below meth c H locs cells slots (lw_Z below #[Value.ref b] s) (F0 m 27 ls [])) : W p l e room_1 s m #[Value.ref b] below meth c H locs cells slots (lw_Z below #[Value.ref b] s) (F0 m 18 ls []) := by
  refine lv_iload_n hx hb dL_law_18 rfl (lv_at hl 0 rfl) ?_
  refine lv_aload_n hx hb dL_law_19 rfl (lv_at hl 3 rfl) ?_
  refine va_slen hx hb hX hbl hbA hS dL_law_20 ?_
  refine lv_bipush (v := 7) hx hb dL_law_21 (by decide) ?_
  refine lv_isub hx hb dL_law_23 ?_
  refine lv_icmp_gt (tgt := 955) hx hb dL_law_24 (by decide) (fun _ => ?_) (fun c1 => kk (lw_go hi (by omega) c1))
  refine lv_iconst (v := 1) hx hb dL_law_955 (by decide) ?_
  refine va_forget (fun q hq => by have hz := hS.2.2 q hq; rw [hZ] at hz; exact hz) ?_
  refine W.widen (k := 600000) (n := 7302250) hc hs ?_
  exact lw_ret hx hb hr hlocks dL_law_956
set_option maxHeartbeats 8000000 in
set_option maxRecDepth 100000 in
theorem lw_turn {p : Program} {l : Launch} {e : Env} {s : State} {m : MethodId} {below : List Frame} {meth : Method} {c : Code} {b L : Nat} {xs : Nat → Int32} {g : GT} {Z : Nat → Prop} {H : Heap} {locs : List Loc} {ls : Array Slot} {qX qM : Nat} {AX AC AD AP AW AY AK AM : Nat → Nat} {i cells slots : Nat} {d f ep n mm : Nat → Int → Int} {σW σY σK : qS} {ℓK ℓM : qL} {QQ : Nat → Option Nat} {hh : Option (Nat × qS)} {i0 i1 : Option (Nat × (Nat → Nat) × (Nat → Int → Int))}
    (hx : p.tables.exec = Jvm.exec) (hb : c.code = cL_law) (F : CallFix p m c cL_law 4 s #[Value.ref b] wsL_law RL) (hK : va_K g.1 vwCl (tyL g) s) (hN : NW s) (hA : ∀ q : Nat, s.heap.size ≤ q → Z q) (hbA : ¬ Z b) (hX : va_X b L xs s s.heap) (hbl : b < s.heap.size) (hi : i + 7 ≤ L) (hL : L ≤ 3584) (hcR : cells + 8 ≤ room_1.cells ∧ slots + 10240 ≤ room_1.slots)
    (K : lw_C p l e s m below meth c b g Z qX qM AX AC AD AP AW AY AK AM i (cells + 8) (slots + 10240) 949) (hO : kO d f ep mm QQ i0 i1) (hP : va_P g.1 vwCl (kT g hh i0 i1 ++ kF g qX qM AX AC AD AP AW AY AK AM (eC d) (eC f) (eC ep) (eC n) (eC (pw mm d)) σW σY σK ℓK ℓM QQ (kV hh)) H) (hD : va_D Z (kT g hh i0 i1 ++ kF g qX qM AX AC AD AP AW AY AK AM (eC d) (eC f) (eC ep) (eC n) (eC (pw mm d)) σW σY σK ℓK ℓM QQ (kV hh))) (hS : va_S Z s.heap H locs) (hl : lv_has ls 4 [(3, .int (nI i)), (2, .ref qM), (1, .ref qX), (0, .ref b)]) : W p l e room_1 s m #[Value.ref b] below meth c H locs cells slots (lw_Z below #[Value.ref b] s) (F0 m 27 ls []) := by
  refine lv_aload_n hx hb dL_law_27 rfl (lv_at hl 3 rfl) ?_
  refine lv_iload_n hx hb dL_law_28 rfl (lv_at hl 0 rfl) ?_
  refine va_sld hx hb hX hbl hbA hS (vp_in_nI (n := i) (by omega) (by omega)) dL_law_29 ?_
  refine lv_bipush (v := 31) hx hb dL_law_30 (by decide) ?_
  refine lv_iand hx hb dL_law_32 ?_
  by_cases k_0 : (xs (nI i).toNatClampNeg) &&& 31 = 0
  · refine gtop (y := 0) k_0 ?_
    refine lv_tableIn (tgt := 156) (off := 123) hx hb dL_law_33 (by decide) (by decide) rfl (by decide) ?_
    exact ws_156 hx hb F hK hN hA hbA hX hbl hi hL hcR K hO hP hD hS hl
  by_cases k_1 : (xs (nI i).toNatClampNeg) &&& 31 = 1
  · refine gtop (y := 1) k_1 ?_
    refine lv_tableIn (tgt := 199) (off := 166) hx hb dL_law_33 (by decide) (by decide) rfl (by decide) ?_
    exact ws_199 hx hb F hK hN hA hbA hX hbl hi hL hcR K hO hP hD hS hl
  by_cases k_2 : (xs (nI i).toNatClampNeg) &&& 31 = 2
  · refine gtop (y := 2) k_2 ?_
    refine lv_tableIn (tgt := 242) (off := 209) hx hb dL_law_33 (by decide) (by decide) rfl (by decide) ?_
    exact ws_242 hx hb F hK hN hA hbA hX hbl hi hL hcR K hO hP hD hS hl
  by_cases k_3 : (xs (nI i).toNatClampNeg) &&& 31 = 3
  · refine gtop (y := 3) k_3 ?_
    refine lv_tableIn (tgt := 275) (off := 242) hx hb dL_law_33 (by decide) (by decide) rfl (by decide) ?_
    exact ws_275 hx hb F hK hN hA hbA hX hbl hi hL hcR K hO hP hD hS hl
  by_cases k_4 : (xs (nI i).toNatClampNeg) &&& 31 = 4
  · refine gtop (y := 4) k_4 ?_
    refine lv_tableIn (tgt := 308) (off := 275) hx hb dL_law_33 (by decide) (by decide) rfl (by decide) ?_
    exact ws_308 hx hb F hK hN hA hbA hX hbl hi hL hcR K hO hP hD hS hl
  by_cases k_5 : (xs (nI i).toNatClampNeg) &&& 31 = 5
  · refine gtop (y := 5) k_5 ?_
    refine lv_tableIn (tgt := 331) (off := 298) hx hb dL_law_33 (by decide) (by decide) rfl (by decide) ?_
    exact ws_331 hx hb F hK hN hA hbA hX hbl hi hL hcR K hO hP hD hS hl
  by_cases k_6 : (xs (nI i).toNatClampNeg) &&& 31 = 6
  · refine gtop (y := 6) k_6 ?_
    refine lv_tableIn (tgt := 344) (off := 311) hx hb dL_law_33 (by decide) (by decide) rfl (by decide) ?_
    exact ws_344 hx hb F hK hN hA hbA hX hbl hi hL hcR K hO hP hD hS hl
  by_cases k_7 : (xs (nI i).toNatClampNeg) &&& 31 = 7
  · refine gtop (y := 7) k_7 ?_
    refine lv_tableIn (tgt := 357) (off := 324) hx hb dL_law_33 (by decide) (by decide) rfl (by decide) ?_
    exact ws_357 hx hb F hK hN hA hbA hX hbl hi hL hcR K hO hP hD hS hl
  by_cases k_8 : (xs (nI i).toNatClampNeg) &&& 31 = 8
  · refine gtop (y := 8) k_8 ?_
    refine lv_tableIn (tgt := 380) (off := 347) hx hb dL_law_33 (by decide) (by decide) rfl (by decide) ?_
    exact ws_380 hx hb F hK hN hA hbA hX hbl hi hL hcR K hO hP hD hS hl
  by_cases k_9 : (xs (nI i).toNatClampNeg) &&& 31 = 9
  · refine gtop (y := 9) k_9 ?_
    refine lv_tableIn (tgt := 413) (off := 380) hx hb dL_law_33 (by decide) (by decide) rfl (by decide) ?_
    exact ws_413 hx hb F hK hN hA hbA hX hbl hi hL hcR K hO hP hD hS hl
  by_cases k_10 : (xs (nI i).toNatClampNeg) &&& 31 = 10
  · refine gtop (y := 10) k_10 ?_
    refine lv_tableIn (tgt := 436) (off := 403) hx hb dL_law_33 (by decide) (by decide) rfl (by decide) ?_
    exact ws_436 hx hb F hK hN hA hbA hX hbl hi hL hcR K hO hP hD hS hl
  by_cases k_11 : (xs (nI i).toNatClampNeg) &&& 31 = 11
  · refine gtop (y := 11) k_11 ?_
    refine lv_tableIn (tgt := 459) (off := 426) hx hb dL_law_33 (by decide) (by decide) rfl (by decide) ?_
    exact ws_459 hx hb F hK hN hA hbA hX hbl hi hL hcR K hO hP hD hS hl
  by_cases k_12 : (xs (nI i).toNatClampNeg) &&& 31 = 12
  · refine gtop (y := 12) k_12 ?_
    refine lv_tableIn (tgt := 482) (off := 449) hx hb dL_law_33 (by decide) (by decide) rfl (by decide) ?_
    exact ws_482 hx hb F hK hN hA hbA hX hbl hi hL hcR K hO hP hD hS hl
  by_cases k_13 : (xs (nI i).toNatClampNeg) &&& 31 = 13
  · refine gtop (y := 13) k_13 ?_
    refine lv_tableIn (tgt := 495) (off := 462) hx hb dL_law_33 (by decide) (by decide) rfl (by decide) ?_
    exact ws_495 hx hb F hK hN hA hbA hX hbl hi hL hcR K hO hP hD hS hl
  by_cases k_14 : (xs (nI i).toNatClampNeg) &&& 31 = 14
  · refine gtop (y := 14) k_14 ?_
    refine lv_tableIn (tgt := 538) (off := 505) hx hb dL_law_33 (by decide) (by decide) rfl (by decide) ?_
    exact ws_538 hx hb F hK hN hA hbA hX hbl hi hL hcR K hO hP hD hS hl
  by_cases k_15 : (xs (nI i).toNatClampNeg) &&& 31 = 15
  · refine gtop (y := 15) k_15 ?_
    refine lv_tableIn (tgt := 571) (off := 538) hx hb dL_law_33 (by decide) (by decide) rfl (by decide) ?_
    exact ws_571 hx hb F hK hN hA hbA hX hbl hi hL hcR K hO hP hD hS hl
  by_cases k_16 : (xs (nI i).toNatClampNeg) &&& 31 = 16
  · refine gtop (y := 16) k_16 ?_
    refine lv_tableIn (tgt := 604) (off := 571) hx hb dL_law_33 (by decide) (by decide) rfl (by decide) ?_
    exact ws_604 hx hb F hK hN hA hbA hX hbl hi hL hcR K hO hP hD hS hl
  by_cases k_17 : (xs (nI i).toNatClampNeg) &&& 31 = 17
  · refine gtop (y := 17) k_17 ?_
    refine lv_tableIn (tgt := 637) (off := 604) hx hb dL_law_33 (by decide) (by decide) rfl (by decide) ?_
    exact ws_637 hx hb F hK hN hA hbA hX hbl hi hL hcR K hO hP hD hS hl
  by_cases k_18 : (xs (nI i).toNatClampNeg) &&& 31 = 18
  · refine gtop (y := 18) k_18 ?_
    refine lv_tableIn (tgt := 670) (off := 637) hx hb dL_law_33 (by decide) (by decide) rfl (by decide) ?_
    exact ws_670 hx hb F hK hN hA hbA hX hbl hi hL hcR K hO hP hD hS hl
  by_cases k_19 : (xs (nI i).toNatClampNeg) &&& 31 = 19
  · refine gtop (y := 19) k_19 ?_
    refine lv_tableIn (tgt := 683) (off := 650) hx hb dL_law_33 (by decide) (by decide) rfl (by decide) ?_
    exact ws_683 hx hb F hK hN hA hbA hX hbl hi hL hcR K hO hP hD hS hl
  by_cases k_20 : (xs (nI i).toNatClampNeg) &&& 31 = 20
  · refine gtop (y := 20) k_20 ?_
    refine lv_tableIn (tgt := 706) (off := 673) hx hb dL_law_33 (by decide) (by decide) rfl (by decide) ?_
    exact ws_706 hx hb F hK hN hA hbA hX hbl hi hL hcR K hO hP hD hS hl
  by_cases k_21 : (xs (nI i).toNatClampNeg) &&& 31 = 21
  · refine gtop (y := 21) k_21 ?_
    refine lv_tableIn (tgt := 729) (off := 696) hx hb dL_law_33 (by decide) (by decide) rfl (by decide) ?_
    exact ws_729 hx hb F hK hN hA hbA hX hbl hi hL hcR K hO hP hD hS hl
  by_cases k_22 : (xs (nI i).toNatClampNeg) &&& 31 = 22
  · refine gtop (y := 22) k_22 ?_
    refine lv_tableIn (tgt := 804) (off := 771) hx hb dL_law_33 (by decide) (by decide) rfl (by decide) ?_
    exact ws_804 hx hb F hK hN hA hbA hX hbl hi hL hcR K hO hP hD hS hl
  by_cases k_23 : (xs (nI i).toNatClampNeg) &&& 31 = 23
  · refine gtop (y := 23) k_23 ?_
    refine lv_tableIn (tgt := 837) (off := 804) hx hb dL_law_33 (by decide) (by decide) rfl (by decide) ?_
    exact ws_837 hx hb F hK hN hA hbA hX hbl hi hL hcR K hO hP hD hS hl
  by_cases k_24 : (xs (nI i).toNatClampNeg) &&& 31 = 24
  · refine gtop (y := 24) k_24 ?_
    refine lv_tableIn (tgt := 880) (off := 847) hx hb dL_law_33 (by decide) (by decide) rfl (by decide) ?_
    exact ws_880 hx hb F hK hN hA hbA hX hbl hi hL hcR K hO hP hD hS hl
  by_cases k_25 : (xs (nI i).toNatClampNeg) &&& 31 = 25
  · refine gtop (y := 25) k_25 ?_
    refine lv_tableIn (tgt := 903) (off := 870) hx hb dL_law_33 (by decide) (by decide) rfl (by decide) ?_
    exact ws_903 hx hb F hK hN hA hbA hX hbl hi hL hcR K hO hP hD hS hl
  by_cases k_26 : (xs (nI i).toNatClampNeg) &&& 31 = 26
  · refine gtop (y := 26) k_26 ?_
    refine lv_tableIn (tgt := 926) (off := 893) hx hb dL_law_33 (by decide) (by decide) rfl (by decide) ?_
    exact ws_926 hx hb F hK hN hA hbA hX hbl hi hL hcR K hO hP hD hS hl
  refine lv_tableOut (tgt := 949) hx hb dL_law_33 (sw_out 27 (by decide) (by decide) (lt_s (lt_s (lt_s (lt_s (lt_s (lt_s (lt_s (lt_s (lt_s (lt_s (lt_s (lt_s (lt_s (lt_s (lt_s (lt_s (lt_s (lt_s (lt_s (lt_s (lt_s (lt_s (lt_s (lt_s (lt_s (lt_s (lt_s lt_0 k_0) k_1) k_2) k_3) k_4) k_5) k_6) k_7) k_8) k_9) k_10) k_11) k_12) k_13) k_14) k_15) k_16) k_17) k_18) k_19) k_20) k_21) k_22) k_23) k_24) k_25) k_26)) (by decide) ?_
  refine W.widen (k := cells + 8) (n := slots + 10240) (by omega) (by omega) ?_
  exact K d f ep n mm σW σY σK ℓK ℓM QQ hh i0 i1 hO H locs ls hP hD hS hl
set_option maxHeartbeats 8000000 in
theorem lw_loop {p : Program} {l : Launch} {e : Env} {s : State} {m : MethodId} {below : List Frame} {meth : Method} {c : Code} {b L : Nat} {xs : Nat → Int32} {g : GT} {Z : Nat → Prop} {qX qM : Nat} {AX AC AD AP AW AY AK AM : Nat → Nat}
    (hx : p.tables.exec = Jvm.exec) (hb : c.code = cL_law) (hr : meth.sig.returnType = ret) (hlocks : meth.locks = false) (F : CallFix p m c cL_law 4 s #[Value.ref b] wsL_law RL) (hK : va_K g.1 vwCl (tyL g) s) (hN : NW s) (hA : ∀ q : Nat, s.heap.size ≤ q → Z q) (hZ : Z = fun q => s.heap.size ≤ q) (hbA : ¬ Z b) (hX : va_X b L xs s s.heap) (hbl : b < s.heap.size) (hL : L ≤ 3584) :
    ∀ (N k : Nat), k + N = 513 → lw_C p l e s m below meth c b g Z qX qM AX AC AD AP AW AY AK AM (7 * k) (53 + 8 * k) (16174 + 10240 * k) 18 := by
  intro N
  induction N with
  | zero =>
    intro k hk d f ep n mm σW σY σK ℓK ℓM QQ hh i0 i1 hO H locs ls hP hD hS hl
    exact lw_head hx hb hr hlocks hZ hbA hX hbl (by omega) hL (by omega) (by omega) hS hl (fun h => absurd h (by omega))
  | succ N ih =>
    intro k hk d f ep n mm σW σY σK ℓK ℓM QQ hh i0 i1 hO H locs ls hP hD hS hl
    refine lw_head hx hb hr hlocks hZ hbA hX hbl (by omega) hL (by omega) (by omega) hS hl (fun h => ?_)
    refine lw_turn hx hb F hK hN hA hbA hX hbl h hL ⟨by show _ ≤ 600000; omega, by show _ ≤ 7302250; omega⟩ ?_ hO hP hD hS hl
    intro d f ep n mm σW σY σK ℓK ℓM QQ hh i0 i1 hO H locs ls hP hD hS hl
    have hv : nI (7 * k) + Int32.ofInt 7 = nI (7 * (k + 1)) := nI_adk (7 * k) 7
    refine lv_iinc (v := nI (7 * (k + 1))) (lv' := [(3, .int (nI (7 * (k + 1)))), (2, .ref qM), (1, .ref qX), (0, .ref b)]) hx hb dL_law_949 hl (k := 0) rfl hv (by decide) rfl (fun ls hl => ?_)
    refine lv_goto (tgt := 18) hx hb dL_law_952 (by decide) ?_
    have e1 : 53 + 8 * k + 8 = 53 + 8 * (k + 1) := by omega
    have e2 : 16174 + 10240 * k + 10240 = 16174 + 10240 * (k + 1) := by omega
    rw [e1, e2]
    exact ih (k + 1) (by omega) d f ep n mm σW σY σK ℓK ℓM QQ hh i0 i1 hO H locs ls hP hD hS hl
set_option maxHeartbeats 16000000 in
set_option maxRecDepth 100000 in
theorem whole_start {p : Program} {e : Env} {s : State} {m : MethodId} {below : List Frame} {meth : Method} {c : Code} (l : Launch) (hflags : l.flags = flags0) {b L : Nat} {xs : Nat → Int32} (hL : L ≤ 3584) (C0 : lw_At p s m meth c b L xs) : W p l e room_1 s m #[Value.ref b] below meth c s.heap [] 0 0 (lw_Z below #[Value.ref b] s) (entryFrame m ([Value.ref b] : List Value).toArray 4) := by
  obtain ⟨hx, hb, hr, hml, hown, htsT, hX, hbl, hlocks, hgv⟩ := id C0
  obtain ⟨g, hK, hN⟩ := lw_tabs htsT
  have hts : ∀ w ∈ wsL_law, w.before #[Value.ref b] s = true := fun w h => htsT w (wsL_law_in w h)
  have F : CallFix p m c cL_law 4 s #[Value.ref b] wsL_law RL := ⟨hx, hb, hml, hown, hts⟩
  obtain ⟨Z, hZ⟩ : ∃ Z : Nat → Prop, Z = fun q => s.heap.size ≤ q := ⟨_, rfl⟩
  have hA : ∀ q : Nat, s.heap.size ≤ q → Z q := fun q h => by rw [hZ]; exact h
  have hbA : ¬ Z b := by rw [hZ]; exact Nat.not_le.mpr hbl
  have hP : va_P g.1 vwCl [] s.heap := P_nil
  have hD : va_D Z [] := D_nil
  have hi6 : ∀ w ∈ u_ws RX6 TX6 8, w ∈ wsL_law := inlX6
  have hi7 : ∀ w ∈ u_ws RX7 TX7 34, w ∈ wsL_law := inlX7
  have hl := lv_entry ([.ref b]) (n := 4) (Nat.le_of_ble_eq_true rfl)
  rw [lg_entry_eq]
  generalize (lg_sl ([.ref b]) ++ List.replicate (4 - (lg_sl ([.ref b])).length) Slot.unset).toArray = ls at hl ⊢
  have hl : lv_has ls 4 [(0, .ref b)] := hl
  obtain ⟨H, locs, hS, hP, K0⟩ : ∃ (H : Heap) (locs : List Loc), va_S Z s.heap H locs ∧ va_P g.1 vwCl [] H ∧ (W p l e room_1 s m #[Value.ref b] below meth c H locs 0 0 (lw_Z below #[Value.ref b] s) (F0 m 0 ls []) → W p l e room_1 s m #[Value.ref b] below meth c s.heap [] 0 0 (lw_Z below #[Value.ref b] s) (F0 m 0 ls [])) := ⟨s.heap, [], va_S.rf, hP, id⟩
  refine K0 ?_
  refine va_new (D := g.1) (ci := 6) (fs := [.null, .null, .null, .null, .null, .null, .null, .null]) (C := RX6) (T := TX6) (N := 8) hx hb hts hi6 tyX6 tyX6_ok hown (hts (.classLink RL 7 RX6) (by decide +kernel)) (hts (.instantiable RX6 8) (by decide +kernel)) (hts (.initialized RX6) (by decide +kernel)) hK hP hD hS hA rfl (by decide +kernel) (Nat.le_of_ble_eq_true rfl) (Nat.le_of_ble_eq_true rfl) dL_law_0 (fun q_1 H hP hD hS => ?_)
  have hP : va_P g.1 vwCl [(q_1, .inr (6, [.null, .null, .null, .null, .null, .null, .null, .null]))] H := hP
  have hD : va_D Z [(q_1, .inr (6, [.null, .null, .null, .null, .null, .null, .null, .null]))] := hD
  refine W.widen (k := 1) (n := 8) (by decide) (by decide) ?_
  refine lv_dup hx hb dL_law_3 rfl ?_
  refine gcI_v (As := []) (rest := [.ref q_1]) F hK hN hP hD hS hA (c_X6_init l g H.size q_1) gL_law_X6_init kX6_init rfl (hts (.initialized RX6) (by decide +kernel)) (hts (.methodLink RL 9 yX6_init) (by decide +kernel)) (hts (.instanceMethod yX6_init) (by decide +kernel)) rfl rfl rfl ⟨(Nat.le_of_ble_eq_true rfl), (Nat.le_of_ble_eq_true rfl)⟩ [0] [] rfl rfl rfl (by decide) rfl rfl rfl hl.1 (Nat.le_of_ble_eq_true rfl) dL_law_4 ⟨(Nat.le_of_ble_eq_true rfl), (Nat.le_of_ble_eq_true rfl)⟩ (fun u_w H locs hw hP hD hS => ?_)
  refine W.widen (k := 32) (n := 1151) (by decide) (by decide) ?_
  obtain ⟨E_2, rfl⟩ : ∃ z, z = u_w := ⟨_, rfl⟩
  have hw_3 := hw
  have hP : va_P g.1 vwCl [(q_1, .inr (6, [.ref (E_2 0 0), .ref (E_2 0 1), .ref (E_2 0 2), .ref (E_2 0 3), .ref (E_2 0 4), .ref (E_2 0 5), .ref (E_2 0 6), .ref (E_2 0 7)])), (E_2 0 0, .inr (1, oC (E_2 1) iC0)), aI g ((E_2 1) 0) 121 (fun _ => 0), aI g ((E_2 1) 1) 10 (fun _ => 5), aI g ((E_2 1) 2) 10 (fun _ => 0), aI g ((E_2 1) 3) 10 (fun _ => (-6)), aI g ((E_2 1) 4) 10 (fun j => nI j), aI g ((E_2 1) 5) 8 (fun _ => 0), aI g ((E_2 1) 6) 8 (fun _ => 0), (E_2 0 1, .inr (1, oC (E_2 2) iC0)), aI g ((E_2 2) 0) 121 (fun _ => 0), aI g ((E_2 2) 1) 10 (fun _ => 5), aI g ((E_2 2) 2) 10 (fun _ => 0), aI g ((E_2 2) 3) 10 (fun _ => (-6)), aI g ((E_2 2) 4) 10 (fun j => nI j), aI g ((E_2 2) 5) 8 (fun _ => 0), aI g ((E_2 2) 6) 8 (fun _ => 0), aQ g (E_2 0 2) 2 (fun _ => none), (E_2 0 3, .inr (3, [.ref (E_2 3 0), .int 0])), aI g (E_2 3 0) 60 (fun _ => 0), (E_2 0 4, .inr (2, [.int 0, .int 0, .int 0, .int 0, .int 0, .int 0])), (E_2 0 5, .inr (5, [.ref (E_2 5 0), .ref (E_2 5 1), .null])), aI g (E_2 5 0) 121 (fun _ => 0), aI g (E_2 5 1) 11 (fun _ => 0), (E_2 0 6, .inr (4, [.ref (E_2 6 0), .ref (E_2 6 1), .ref (E_2 6 2), .int 0])), aI g (E_2 6 0) 410 (fun _ => 0), aI g (E_2 6 1) 50 (fun _ => 0), aI g (E_2 6 2) 10 (fun _ => 0), (E_2 0 7, .inr (0, [.ref (E_2 7 0), .ref (E_2 7 1), .ref (E_2 7 2)])), aJ g (E_2 7 0) 11 (fun _ => 0), aJ g (E_2 7 1) 11 (fun _ => 0), aI g (E_2 7 2) 61 (fun _ => 0)] H := hP
  have hD : va_D Z [(q_1, .inr (6, [.ref (E_2 0 0), .ref (E_2 0 1), .ref (E_2 0 2), .ref (E_2 0 3), .ref (E_2 0 4), .ref (E_2 0 5), .ref (E_2 0 6), .ref (E_2 0 7)])), (E_2 0 0, .inr (1, oC (E_2 1) iC0)), aI g ((E_2 1) 0) 121 (fun _ => 0), aI g ((E_2 1) 1) 10 (fun _ => 5), aI g ((E_2 1) 2) 10 (fun _ => 0), aI g ((E_2 1) 3) 10 (fun _ => (-6)), aI g ((E_2 1) 4) 10 (fun j => nI j), aI g ((E_2 1) 5) 8 (fun _ => 0), aI g ((E_2 1) 6) 8 (fun _ => 0), (E_2 0 1, .inr (1, oC (E_2 2) iC0)), aI g ((E_2 2) 0) 121 (fun _ => 0), aI g ((E_2 2) 1) 10 (fun _ => 5), aI g ((E_2 2) 2) 10 (fun _ => 0), aI g ((E_2 2) 3) 10 (fun _ => (-6)), aI g ((E_2 2) 4) 10 (fun j => nI j), aI g ((E_2 2) 5) 8 (fun _ => 0), aI g ((E_2 2) 6) 8 (fun _ => 0), aQ g (E_2 0 2) 2 (fun _ => none), (E_2 0 3, .inr (3, [.ref (E_2 3 0), .int 0])), aI g (E_2 3 0) 60 (fun _ => 0), (E_2 0 4, .inr (2, [.int 0, .int 0, .int 0, .int 0, .int 0, .int 0])), (E_2 0 5, .inr (5, [.ref (E_2 5 0), .ref (E_2 5 1), .null])), aI g (E_2 5 0) 121 (fun _ => 0), aI g (E_2 5 1) 11 (fun _ => 0), (E_2 0 6, .inr (4, [.ref (E_2 6 0), .ref (E_2 6 1), .ref (E_2 6 2), .int 0])), aI g (E_2 6 0) 410 (fun _ => 0), aI g (E_2 6 1) 50 (fun _ => 0), aI g (E_2 6 2) 10 (fun _ => 0), (E_2 0 7, .inr (0, [.ref (E_2 7 0), .ref (E_2 7 1), .ref (E_2 7 2)])), aJ g (E_2 7 0) 11 (fun _ => 0), aJ g (E_2 7 1) 11 (fun _ => 0), aI g (E_2 7 2) 61 (fun _ => 0)] := hD
  refine lv_astore_n (lv' := [(1, .ref q_1), (0, .ref b)]) hx hb dL_law_7 rfl hl (by decide) rfl (fun ls hl => ?_)
  refine va_new (D := g.1) (ci := 7) (fs := [.null, .null, .null, .null, .null, .int 0, .int 0, .int 0, .int 0, .null, .null, .int 0, .null, .int 0, .null, .null, .null, .int 0, .null, .int 0, .int 0, .int 0, .int 0, .int 0, .null, .null, .null, .null, .null, .null, .null, .null, .int 0, .int 0]) (C := RX7) (T := TX7) (N := 34) hx hb hts hi7 tyX7 tyX7_ok hown (hts (.classLink RL 10 RX7) (by decide +kernel)) (hts (.instantiable RX7 34) (by decide +kernel)) (hts (.initialized RX7) (by decide +kernel)) hK hP hD hS hA rfl (by decide +kernel) (Nat.le_of_ble_eq_true rfl) (Nat.le_of_ble_eq_true rfl) dL_law_8 (fun q_4 H hP hD hS => ?_)
  have hP : va_P g.1 vwCl [(q_1, .inr (6, [.ref (E_2 0 0), .ref (E_2 0 1), .ref (E_2 0 2), .ref (E_2 0 3), .ref (E_2 0 4), .ref (E_2 0 5), .ref (E_2 0 6), .ref (E_2 0 7)])), (E_2 0 0, .inr (1, oC (E_2 1) iC0)), aI g ((E_2 1) 0) 121 (fun _ => 0), aI g ((E_2 1) 1) 10 (fun _ => 5), aI g ((E_2 1) 2) 10 (fun _ => 0), aI g ((E_2 1) 3) 10 (fun _ => (-6)), aI g ((E_2 1) 4) 10 (fun j => nI j), aI g ((E_2 1) 5) 8 (fun _ => 0), aI g ((E_2 1) 6) 8 (fun _ => 0), (E_2 0 1, .inr (1, oC (E_2 2) iC0)), aI g ((E_2 2) 0) 121 (fun _ => 0), aI g ((E_2 2) 1) 10 (fun _ => 5), aI g ((E_2 2) 2) 10 (fun _ => 0), aI g ((E_2 2) 3) 10 (fun _ => (-6)), aI g ((E_2 2) 4) 10 (fun j => nI j), aI g ((E_2 2) 5) 8 (fun _ => 0), aI g ((E_2 2) 6) 8 (fun _ => 0), aQ g (E_2 0 2) 2 (fun _ => none), (E_2 0 3, .inr (3, [.ref (E_2 3 0), .int 0])), aI g (E_2 3 0) 60 (fun _ => 0), (E_2 0 4, .inr (2, [.int 0, .int 0, .int 0, .int 0, .int 0, .int 0])), (E_2 0 5, .inr (5, [.ref (E_2 5 0), .ref (E_2 5 1), .null])), aI g (E_2 5 0) 121 (fun _ => 0), aI g (E_2 5 1) 11 (fun _ => 0), (E_2 0 6, .inr (4, [.ref (E_2 6 0), .ref (E_2 6 1), .ref (E_2 6 2), .int 0])), aI g (E_2 6 0) 410 (fun _ => 0), aI g (E_2 6 1) 50 (fun _ => 0), aI g (E_2 6 2) 10 (fun _ => 0), (E_2 0 7, .inr (0, [.ref (E_2 7 0), .ref (E_2 7 1), .ref (E_2 7 2)])), aJ g (E_2 7 0) 11 (fun _ => 0), aJ g (E_2 7 1) 11 (fun _ => 0), aI g (E_2 7 2) 61 (fun _ => 0), (q_4, .inr (7, [.null, .null, .null, .null, .null, .int 0, .int 0, .int 0, .int 0, .null, .null, .int 0, .null, .int 0, .null, .null, .null, .int 0, .null, .int 0, .int 0, .int 0, .int 0, .int 0, .null, .null, .null, .null, .null, .null, .null, .null, .int 0, .int 0]))] H := hP
  have hD : va_D Z [(q_1, .inr (6, [.ref (E_2 0 0), .ref (E_2 0 1), .ref (E_2 0 2), .ref (E_2 0 3), .ref (E_2 0 4), .ref (E_2 0 5), .ref (E_2 0 6), .ref (E_2 0 7)])), (E_2 0 0, .inr (1, oC (E_2 1) iC0)), aI g ((E_2 1) 0) 121 (fun _ => 0), aI g ((E_2 1) 1) 10 (fun _ => 5), aI g ((E_2 1) 2) 10 (fun _ => 0), aI g ((E_2 1) 3) 10 (fun _ => (-6)), aI g ((E_2 1) 4) 10 (fun j => nI j), aI g ((E_2 1) 5) 8 (fun _ => 0), aI g ((E_2 1) 6) 8 (fun _ => 0), (E_2 0 1, .inr (1, oC (E_2 2) iC0)), aI g ((E_2 2) 0) 121 (fun _ => 0), aI g ((E_2 2) 1) 10 (fun _ => 5), aI g ((E_2 2) 2) 10 (fun _ => 0), aI g ((E_2 2) 3) 10 (fun _ => (-6)), aI g ((E_2 2) 4) 10 (fun j => nI j), aI g ((E_2 2) 5) 8 (fun _ => 0), aI g ((E_2 2) 6) 8 (fun _ => 0), aQ g (E_2 0 2) 2 (fun _ => none), (E_2 0 3, .inr (3, [.ref (E_2 3 0), .int 0])), aI g (E_2 3 0) 60 (fun _ => 0), (E_2 0 4, .inr (2, [.int 0, .int 0, .int 0, .int 0, .int 0, .int 0])), (E_2 0 5, .inr (5, [.ref (E_2 5 0), .ref (E_2 5 1), .null])), aI g (E_2 5 0) 121 (fun _ => 0), aI g (E_2 5 1) 11 (fun _ => 0), (E_2 0 6, .inr (4, [.ref (E_2 6 0), .ref (E_2 6 1), .ref (E_2 6 2), .int 0])), aI g (E_2 6 0) 410 (fun _ => 0), aI g (E_2 6 1) 50 (fun _ => 0), aI g (E_2 6 2) 10 (fun _ => 0), (E_2 0 7, .inr (0, [.ref (E_2 7 0), .ref (E_2 7 1), .ref (E_2 7 2)])), aJ g (E_2 7 0) 11 (fun _ => 0), aJ g (E_2 7 1) 11 (fun _ => 0), aI g (E_2 7 2) 61 (fun _ => 0), (q_4, .inr (7, [.null, .null, .null, .null, .null, .int 0, .int 0, .int 0, .int 0, .null, .null, .int 0, .null, .int 0, .null, .null, .null, .int 0, .null, .int 0, .int 0, .int 0, .int 0, .int 0, .null, .null, .null, .null, .null, .null, .null, .null, .int 0, .int 0]))] := hD
  refine W.widen (k := 33) (n := 1185) (by decide) (by decide) ?_
  refine lv_dup hx hb dL_law_11 rfl ?_
  refine gcI_v (As := []) (rest := [.ref q_4]) F hK hN hP hD hS hA (c_X7_init l g H.size q_4) gL_law_X7_init kX7_init rfl (hts (.initialized RX7) (by decide +kernel)) (hts (.methodLink RL 12 yX7_init) (by decide +kernel)) (hts (.instanceMethod yX7_init) (by decide +kernel)) rfl rfl rfl ⟨(Nat.le_of_ble_eq_true rfl), (Nat.le_of_ble_eq_true rfl)⟩ [32] [0, 1, 2, 3, 4, 5, 6, 7, 8, 9, 10, 11, 12, 13, 14, 15, 16, 17, 18, 19, 20, 21, 22, 23, 24, 25, 26, 27, 28, 29, 30, 31] rfl rfl rfl (by decide) rfl rfl rfl hl.1 (Nat.le_of_ble_eq_true rfl) dL_law_12 ⟨(Nat.le_of_ble_eq_true rfl), (Nat.le_of_ble_eq_true rfl)⟩ (fun u_w H locs hw hP hD hS => ?_)
  refine W.widen (k := 53) (n := 16174) (by decide) (by decide) ?_
  obtain ⟨A_5, rfl⟩ : ∃ z, z = u_w := ⟨_, rfl⟩
  have hw_6 := hw
  have hP : va_P g.1 vwCl [(q_1, .inr (6, [.ref (E_2 0 0), .ref (E_2 0 1), .ref (E_2 0 2), .ref (E_2 0 3), .ref (E_2 0 4), .ref (E_2 0 5), .ref (E_2 0 6), .ref (E_2 0 7)])), (E_2 0 0, .inr (1, oC (E_2 1) iC0)), aI g ((E_2 1) 0) 121 (fun _ => 0), aI g ((E_2 1) 1) 10 (fun _ => 5), aI g ((E_2 1) 2) 10 (fun _ => 0), aI g ((E_2 1) 3) 10 (fun _ => (-6)), aI g ((E_2 1) 4) 10 (fun j => nI j), aI g ((E_2 1) 5) 8 (fun _ => 0), aI g ((E_2 1) 6) 8 (fun _ => 0), (E_2 0 1, .inr (1, oC (E_2 2) iC0)), aI g ((E_2 2) 0) 121 (fun _ => 0), aI g ((E_2 2) 1) 10 (fun _ => 5), aI g ((E_2 2) 2) 10 (fun _ => 0), aI g ((E_2 2) 3) 10 (fun _ => (-6)), aI g ((E_2 2) 4) 10 (fun j => nI j), aI g ((E_2 2) 5) 8 (fun _ => 0), aI g ((E_2 2) 6) 8 (fun _ => 0), aQ g (E_2 0 2) 2 (fun _ => none), (E_2 0 3, .inr (3, [.ref (E_2 3 0), .int 0])), aI g (E_2 3 0) 60 (fun _ => 0), (E_2 0 4, .inr (2, [.int 0, .int 0, .int 0, .int 0, .int 0, .int 0])), (E_2 0 5, .inr (5, [.ref (E_2 5 0), .ref (E_2 5 1), .null])), aI g (E_2 5 0) 121 (fun _ => 0), aI g (E_2 5 1) 11 (fun _ => 0), (E_2 0 6, .inr (4, [.ref (E_2 6 0), .ref (E_2 6 1), .ref (E_2 6 2), .int 0])), aI g (E_2 6 0) 410 (fun _ => 0), aI g (E_2 6 1) 50 (fun _ => 0), aI g (E_2 6 2) 10 (fun _ => 0), (E_2 0 7, .inr (0, [.ref (E_2 7 0), .ref (E_2 7 1), .ref (E_2 7 2)])), aJ g (E_2 7 0) 11 (fun _ => 0), aJ g (E_2 7 1) 11 (fun _ => 0), aI g (E_2 7 2) 61 (fun _ => 0), (q_4, .inr (7, oM A_5 iM0)), aI g (A_5 0) 121 (fun _ => 0), aI g (A_5 1) 10 (fun _ => 5), aI g (A_5 2) 10 (fun _ => 0), aI g (A_5 3) 10 (fun _ => (-6)), aI g (A_5 4) 10 (fun j => nI j), aI g (A_5 9) 8 (fun _ => 0), aI g (A_5 10) 8 (fun _ => 0), aI g (A_5 12) 60 (fun _ => 0), aI g (A_5 14) 60 (fun _ => 0), aI g (A_5 15) 60 (fun _ => 0), aI g (A_5 16) 60 (fun _ => 0), aI g (A_5 18) 34 (fun _ => 0), aI g (A_5 24) 121 (fun _ => 0), aI g (A_5 25) 10240 (fun _ => 0), aI g (A_5 26) 10 (fun _ => 0), aJ g (A_5 27) 22 (fun _ => 0), aJ g (A_5 28) 22 (fun _ => 0), aZ g (A_5 29) 3721 (fun _ => 0), aI g (A_5 30) 400 (fun _ => 0), aZ g (A_5 31) 2 (fun _ => 0)] H := hP
  have hD : va_D Z [(q_1, .inr (6, [.ref (E_2 0 0), .ref (E_2 0 1), .ref (E_2 0 2), .ref (E_2 0 3), .ref (E_2 0 4), .ref (E_2 0 5), .ref (E_2 0 6), .ref (E_2 0 7)])), (E_2 0 0, .inr (1, oC (E_2 1) iC0)), aI g ((E_2 1) 0) 121 (fun _ => 0), aI g ((E_2 1) 1) 10 (fun _ => 5), aI g ((E_2 1) 2) 10 (fun _ => 0), aI g ((E_2 1) 3) 10 (fun _ => (-6)), aI g ((E_2 1) 4) 10 (fun j => nI j), aI g ((E_2 1) 5) 8 (fun _ => 0), aI g ((E_2 1) 6) 8 (fun _ => 0), (E_2 0 1, .inr (1, oC (E_2 2) iC0)), aI g ((E_2 2) 0) 121 (fun _ => 0), aI g ((E_2 2) 1) 10 (fun _ => 5), aI g ((E_2 2) 2) 10 (fun _ => 0), aI g ((E_2 2) 3) 10 (fun _ => (-6)), aI g ((E_2 2) 4) 10 (fun j => nI j), aI g ((E_2 2) 5) 8 (fun _ => 0), aI g ((E_2 2) 6) 8 (fun _ => 0), aQ g (E_2 0 2) 2 (fun _ => none), (E_2 0 3, .inr (3, [.ref (E_2 3 0), .int 0])), aI g (E_2 3 0) 60 (fun _ => 0), (E_2 0 4, .inr (2, [.int 0, .int 0, .int 0, .int 0, .int 0, .int 0])), (E_2 0 5, .inr (5, [.ref (E_2 5 0), .ref (E_2 5 1), .null])), aI g (E_2 5 0) 121 (fun _ => 0), aI g (E_2 5 1) 11 (fun _ => 0), (E_2 0 6, .inr (4, [.ref (E_2 6 0), .ref (E_2 6 1), .ref (E_2 6 2), .int 0])), aI g (E_2 6 0) 410 (fun _ => 0), aI g (E_2 6 1) 50 (fun _ => 0), aI g (E_2 6 2) 10 (fun _ => 0), (E_2 0 7, .inr (0, [.ref (E_2 7 0), .ref (E_2 7 1), .ref (E_2 7 2)])), aJ g (E_2 7 0) 11 (fun _ => 0), aJ g (E_2 7 1) 11 (fun _ => 0), aI g (E_2 7 2) 61 (fun _ => 0), (q_4, .inr (7, oM A_5 iM0)), aI g (A_5 0) 121 (fun _ => 0), aI g (A_5 1) 10 (fun _ => 5), aI g (A_5 2) 10 (fun _ => 0), aI g (A_5 3) 10 (fun _ => (-6)), aI g (A_5 4) 10 (fun j => nI j), aI g (A_5 9) 8 (fun _ => 0), aI g (A_5 10) 8 (fun _ => 0), aI g (A_5 12) 60 (fun _ => 0), aI g (A_5 14) 60 (fun _ => 0), aI g (A_5 15) 60 (fun _ => 0), aI g (A_5 16) 60 (fun _ => 0), aI g (A_5 18) 34 (fun _ => 0), aI g (A_5 24) 121 (fun _ => 0), aI g (A_5 25) 10240 (fun _ => 0), aI g (A_5 26) 10 (fun _ => 0), aJ g (A_5 27) 22 (fun _ => 0), aJ g (A_5 28) 22 (fun _ => 0), aZ g (A_5 29) 3721 (fun _ => 0), aI g (A_5 30) 400 (fun _ => 0), aZ g (A_5 31) 2 (fun _ => 0)] := hD
  refine lv_astore_n (lv' := [(2, .ref q_4), (1, .ref q_1), (0, .ref b)]) hx hb dL_law_15 rfl hl (by decide) rfl (fun ls hl => ?_)
  refine lv_iconst (v := 0) hx hb dL_law_16 (by decide) ?_
  refine lv_istore_n (lv' := [(3, .int 0), (2, .ref q_4), (1, .ref q_1), (0, .ref b)]) hx hb dL_law_17 rfl hl (by decide) rfl (fun ls hl => ?_)
  have hP : va_P g.1 vwCl (kT g none none none ++ kF g q_1 q_4 (E_2 0) (E_2 1) (E_2 2) (E_2 3) (E_2 5) (E_2 6) (E_2 7) A_5 qC0 qC0 qZ0 qZ0 qM0 qZ0 qZ0 qZ0 (fun _ _ => 0) (fun _ _ => 0) (fun _ => none) (kV none)) H := hP
  have hD : va_D Z (kT g none none none ++ kF g q_1 q_4 (E_2 0) (E_2 1) (E_2 2) (E_2 3) (E_2 5) (E_2 6) (E_2 7) A_5 qC0 qC0 qZ0 qZ0 qM0 qZ0 qZ0 qZ0 (fun _ _ => 0) (fun _ _ => 0) (fun _ => none) (kV none)) := hD
  rw [qC0_dz, qZ0_z, qM0_z] at hP hD
  have hl : lv_has ls 4 [(3, .int (nI (7 * 0))), (2, .ref q_4), (1, .ref q_1), (0, .ref b)] := hl
  exact lw_loop hx hb hr hlocks F hK hN hA hZ hbA hX hbl hL 513 0 rfl dz dz zz zz zz (eC zz) (eC zz) (eC zz) (fun _ _ => 0) (fun _ _ => 0) (fun _ => none) none none none kO_0 H locs ls hP hD hS hl
